/-! ===== HMAC of the class ===== -/
/-- the key in a block -/
def lm_kb (T : lm_TB) (b : Nat) (key : Nat → Int32) (l : Nat) (h0 : lm_HV) (i : Nat) : Int32 := if l ≤ lm_rate b then (if i < l then lm_b8 (key i) else 0) else (if i < lm_dg b then lm_ou T b (lm_rate b) (lm_hf T b (lm_rate b) (lm_hps T b (lm_rate b) (fun i => lm_b8 (key i)) l 0 h0)).2.2.1 i else 0)
/-- outside the hashes and their two scratches -/
def lm_fD (m : lm_MI) (n : lm_ML) (m' : lm_MI) (n' : lm_ML) : Prop := (∀ q, q < 5 ∨ 25 < q → m' q = m q) ∧ (∀ q, q < 5 ∨ 22 < q → n' q = n q) ∧ m' 11 1 = m 11 1 ∧ m' 17 1 = m 17 1
theorem lm_fD.tr {m m1 m2 : lm_MI} {n n1 n2 : lm_ML} (h : lm_fD m n m1 n1) (g : lm_fD m1 n1 m2 n2) : lm_fD m n m2 n2 := ⟨fun q a => (g.1 q a).trans (h.1 q a), fun q a => (g.2.1 q a).trans (h.2.1 q a), g.2.2.1.trans h.2.2.1, g.2.2.2.trans h.2.2.2⟩
theorem lm_fC.D {m m1 : lm_MI} {n n1 : lm_ML} (h : lm_fC m n m1 n1) : lm_fD m n m1 n1 := ⟨fun q a => h.1 q (by omega), h.2.1, h.2.2.1, h.2.2.2⟩
theorem lm_fD.f {m : lm_MI} {n : lm_ML} {q a b : Nat} {g : Nat → Int32} (hq : q = 23 ∨ q = 24 ∨ q = 25) : lm_fD m n (lm_fil m q a b g) n := ⟨fun p hp => lm_fl_row (by omega), fun _ _ => rfl, by rw [lm_fl_row (by omega)], by rw [lm_fl_row (by omega)]⟩
section LMMB
variable {xs : List Int32} {d b l : Nat} {m : lm_MI} {n nr : lm_ML} {x : lm_H × Nat × Nat} {T : lm_TB} {J : Nat → Int64} {bb : Nat → Int32}
theorem lm_u138 (hT : lm_Tok (lm_sc xs) T) (hI : lm_Iok nr) (g1 : m 11 1 = Int32.ofNat 64) (g2 : m 17 1 = Int32.ofNat 128) (h1 : 1 ≤ b) (h2 : b ≤ 6) {q v : Nat} (hq : q < 5 ∨ 25 < q) (har : lm_ar q = some (1, v)) (hlv : l ≤ v) (hv : v ≤ 70000) {h0 : lm_HV} (e0 : h0 = (0, Int64.ofNat 0, lm_st0' (nr 215) (nr 217) (nr 218) b J, bb)) : ∃ m' n', lm_cal (lm_sc xs) (d + 5) 138 [.ref 4, .int (Int32.ofNat b), .ref q, .int (Int32.ofNat 0), .int (Int32.ofNat l)] (lm_w m n x) = some (.ok (some (.ref (lm_obj b))), lm_w m' n' x) ∧ lm_CS m' n' b (lm_hps T b (lm_rate b) (fun i => lm_kb T b (m q) l h0 i ^^^ Int32.ofInt 54) (lm_rate b) 0 h0) ∧ (∀ i, i < 128 → lm_b8 (m' 23 i) = lm_b8 (lm_kb T b (m q) l h0 i ^^^ Int32.ofInt 54)) ∧ lm_fD m n m' n' := by
  have hrp := lm_rate_pos b
  have h12 : b ≤ 12 := by omega
  have hr128 : lm_rate b ≤ 128 := by
    have := lm_rate_k h1 h12
    split at this
    · omega
    · omega
  have hdg := lm_dg_le b
  obtain ⟨m1, n1, e1, C1, f1⟩ := lm_cstt (xs := xs) (d := d + 1) (x := x) (k := b) (m := m) (n := n) h1 h12 g1 g2 hI (J := J) (b := bb)
  rw [← e0] at C1
  have C2 : lm_CS (lm_fil m1 23 0 128 fun _ => Int32.ofInt 0) n1 b h0 := lm_CS_m h1 h12 C1 (fun p _ _ => lm_fl_row (by omega)) (fun _ _ _ => rfl)
  have tail : ∀ (m4 : lm_MI) (n4 : lm_ML), lm_CS m4 n4 b h0 → lm_fD m n m4 n4 → (∀ i, i < 128 → lm_b8 (m4 23 i) = lm_b8 (lm_kb T b (m q) l h0 i)) → ∃ m' n', lm_rn (lm_sc xs) (d + 4) lm_m138.2.2.2.2.1 (lm_reg lm_m138.2.2.2.2.2) (70, [(0, .ref 4), (5, .ref (lm_obj b))], []) (lm_w m4 n4 x) = some (.ok (some (.ref (lm_obj b))), lm_w m' n' x) ∧ lm_CS m' n' b (lm_hps T b (lm_rate b) (fun i => lm_kb T b (m q) l h0 i ^^^ Int32.ofInt 54) (lm_rate b) 0 h0) ∧ (∀ i, i < 128 → lm_b8 (m' 23 i) = lm_b8 (lm_kb T b (m q) l h0 i ^^^ Int32.ofInt 54)) ∧ lm_fD m n m' n' := by
    intro m4 n4 C4 f4 k4
    have C5 : lm_CS (lm_fil m4 23 0 128 (fun i => lm_b8 (lm_b8 (m4 23 i) ^^^ lm_b8 (Int32.ofInt 54)))) n4 b h0 := lm_CS_m h1 h12 C4 (fun p _ _ => lm_fl_row (by omega)) (fun _ _ _ => rfl)
    have k5 : ∀ i, i < 128 → lm_b8 (lm_fil m4 23 0 128 (fun i => lm_b8 (lm_b8 (m4 23 i) ^^^ lm_b8 (Int32.ofInt 54))) 23 i) = lm_b8 (lm_kb T b (m q) l h0 i ^^^ Int32.ofInt 54) := fun i hi => by
      rw [lm_fl_in (by omega), lm_b8b, k4 i hi, show lm_b8 (Int32.ofInt 54) = Int32.ofInt 54 by decide, lm_b8x]
    obtain ⟨m6, n6, e6, C6, f6⟩ := lm_cadd (xs := xs) (d := d) (x := x) (q := 23) (v := 128) (a := 0) (l := lm_rate b) hT h1 h12 (by omega) rfl (by omega) (by omega) (show h0.1 < lm_rate b by rw [e0]; show 0 < lm_rate b; omega) C5
    have f6C := f6.C h1 h12
    refine ⟨m6, n6, ?_, ?_, fun i hi => ?_, (f4.tr (lm_fD.f (Or.inl rfl))).tr f6C.D⟩
    · refine lm_e138_70 ?_
      unfold lm_q138_70
      repeat (first
    | ((with_reducible apply lm_sI); exact rfl)
    | ((with_reducible apply lm_sR); exact rfl)
    | ((with_reducible apply lm_sS); exact rfl; exact rfl)
    | ((with_reducible apply lm_sL); exact rfl)
    | ((with_reducible apply lm_sP); exact rfl; exact rfl)
    | ((with_reducible apply lm_sPL); exact rfl; exact rfl)
    | ((with_reducible apply lm_sAA); exact rfl; first | exact rfl | exact lm_roO (by omega) | exact lm_roM (by omega))
    | ((with_reducible apply lm_sI); exact lm_fpL (by omega))
    | ((with_reducible apply lm_sR); exact lm_fpB (by omega))
    | ((with_reducible apply lm_sP); exact lm_fpL (by omega); exact rfl)
    | ((with_reducible apply lm_sS); exact lm_ocO (by omega); exact rfl)
    | ((with_reducible apply lm_sA); exact rfl; omega)
    | ((with_reducible apply lm_sJ); exact rfl; omega)
    | ((with_reducible apply lm_sB); (first | exact rfl | exact lm_arB (by omega) | exact lm_arM (by omega)); omega)
    | ((with_reducible apply lm_wA); exact rfl; omega)
    | ((with_reducible apply lm_wJ); exact rfl; omega)
    | ((with_reducible apply lm_wB); (first | exact rfl | exact lm_arB (by omega) | exact lm_arM (by omega)); omega)
    | ((with_reducible apply lm_sAl); (first | exact rfl | exact lm_arB (by omega) | exact lm_arM (by omega)); omega)
    | ((with_reducible apply lm_iW); decide))
      refine lm_cV (lm_u203 (d := d + 3)) ?_
      repeat (first
    | ((with_reducible apply lm_sI); exact rfl)
    | ((with_reducible apply lm_sR); exact rfl)
    | ((with_reducible apply lm_sS); exact rfl; exact rfl)
    | ((with_reducible apply lm_sL); exact rfl)
    | ((with_reducible apply lm_sP); exact rfl; exact rfl)
    | ((with_reducible apply lm_sPL); exact rfl; exact rfl)
    | ((with_reducible apply lm_sAA); exact rfl; first | exact rfl | exact lm_roO (by omega) | exact lm_roM (by omega))
    | ((with_reducible apply lm_sI); exact lm_fpL (by omega))
    | ((with_reducible apply lm_sR); exact lm_fpB (by omega))
    | ((with_reducible apply lm_sP); exact lm_fpL (by omega); exact rfl)
    | ((with_reducible apply lm_sS); exact lm_ocO (by omega); exact rfl)
    | ((with_reducible apply lm_sA); exact rfl; omega)
    | ((with_reducible apply lm_sJ); exact rfl; omega)
    | ((with_reducible apply lm_sB); (first | exact rfl | exact lm_arB (by omega) | exact lm_arM (by omega)); omega)
    | ((with_reducible apply lm_wA); exact rfl; omega)
    | ((with_reducible apply lm_wJ); exact rfl; omega)
    | ((with_reducible apply lm_wB); (first | exact rfl | exact lm_arB (by omega) | exact lm_arM (by omega)); omega)
    | ((with_reducible apply lm_sAl); (first | exact rfl | exact lm_arB (by omega) | exact lm_arM (by omega)); omega)
    | ((with_reducible apply lm_iW); decide))
      refine lm_CS_r h1 h12 C5 ?_
      refine lm_selA h1 h12 ?_
      refine lm_cV e6 ?_
      exact rfl
    · rw [← lm_hps_b8 (g := fun i => lm_b8 (lm_fil m4 23 0 128 (fun i => lm_b8 (lm_b8 (m4 23 i) ^^^ lm_b8 (Int32.ofInt 54))) 23 i)) (show ¬ 6 < b by omega) (lm_rate b) 0 h0 (fun i _ hi => by rw [lm_b8b]; exact k5 i (by omega))]
      exact C6
    · rw [f6C.1 23 (by omega)]
      exact k5 i hi
  by_cases c : l ≤ lm_rate b
  · have C3 : lm_CS (lm_cp (lm_fil m1 23 0 128 fun _ => Int32.ofInt 0) 23 0 q 0 l) n1 b h0 := lm_CS_m h1 h12 C2 (fun p _ _ => lm_cp_row (by omega)) (fun _ _ _ => rfl)
    have f3 : lm_fD m n (lm_cp (lm_fil m1 23 0 128 fun _ => Int32.ofInt 0) 23 0 q 0 l) n1 := (f1.D.tr (lm_fD.f (q := 23) (a := 0) (b := 128) (g := fun _ => Int32.ofInt 0) (Or.inl rfl))).tr ⟨fun p hp => lm_cp_row (by omega), fun _ _ => rfl, by rw [lm_cp_row (by decide)], by rw [lm_cp_row (by decide)]⟩
    obtain ⟨m', n', e, C, K, f⟩ := tail _ n1 C3 f3 (fun i hi => by
      unfold lm_kb
      rw [if_pos c, lm_rc]
      by_cases ci : i < l
      · rw [if_pos (by omega), if_pos ci, lm_fl_row (by omega), f1.1 q (by omega), lm_b8b]
        rfl
      · rw [if_neg (by omega), if_neg ci, lm_fl_in (by omega)]
        decide)
    refine ⟨m', n', ?_, C, K, f⟩
    refine lm_cal_of (Y := lm_m138) rfl rfl (lm_e138_0 ?_)
    unfold lm_q138_0
    repeat (first
    | ((with_reducible apply lm_sI); exact rfl)
    | ((with_reducible apply lm_sR); exact rfl)
    | ((with_reducible apply lm_sS); exact rfl; exact rfl)
    | ((with_reducible apply lm_sL); exact rfl)
    | ((with_reducible apply lm_sP); exact rfl; exact rfl)
    | ((with_reducible apply lm_sPL); exact rfl; exact rfl)
    | ((with_reducible apply lm_sAA); exact rfl; first | exact rfl | exact lm_roO (by omega) | exact lm_roM (by omega))
    | ((with_reducible apply lm_sI); exact lm_fpL (by omega))
    | ((with_reducible apply lm_sR); exact lm_fpB (by omega))
    | ((with_reducible apply lm_sP); exact lm_fpL (by omega); exact rfl)
    | ((with_reducible apply lm_sS); exact lm_ocO (by omega); exact rfl)
    | ((with_reducible apply lm_sA); exact rfl; omega)
    | ((with_reducible apply lm_sJ); exact rfl; omega)
    | ((with_reducible apply lm_sB); (first | exact rfl | exact lm_arB (by omega) | exact lm_arM (by omega)); omega)
    | ((with_reducible apply lm_wA); exact rfl; omega)
    | ((with_reducible apply lm_wJ); exact rfl; omega)
    | ((with_reducible apply lm_wB); (first | exact rfl | exact lm_arB (by omega) | exact lm_arM (by omega)); omega)
    | ((with_reducible apply lm_sAl); (first | exact rfl | exact lm_arB (by omega) | exact lm_arM (by omega)); omega)
    | ((with_reducible apply lm_iW); decide))
    refine lm_cR e1 ?_
    repeat (first
    | ((with_reducible apply lm_sI); exact rfl)
    | ((with_reducible apply lm_sR); exact rfl)
    | ((with_reducible apply lm_sS); exact rfl; exact rfl)
    | ((with_reducible apply lm_sL); exact rfl)
    | ((with_reducible apply lm_sP); exact rfl; exact rfl)
    | ((with_reducible apply lm_sPL); exact rfl; exact rfl)
    | ((with_reducible apply lm_sAA); exact rfl; first | exact rfl | exact lm_roO (by omega) | exact lm_roM (by omega))
    | ((with_reducible apply lm_sI); exact lm_fpL (by omega))
    | ((with_reducible apply lm_sR); exact lm_fpB (by omega))
    | ((with_reducible apply lm_sP); exact lm_fpL (by omega); exact rfl)
    | ((with_reducible apply lm_sS); exact lm_ocO (by omega); exact rfl)
    | ((with_reducible apply lm_sA); exact rfl; omega)
    | ((with_reducible apply lm_sJ); exact rfl; omega)
    | ((with_reducible apply lm_sB); (first | exact rfl | exact lm_arB (by omega) | exact lm_arM (by omega)); omega)
    | ((with_reducible apply lm_wA); exact rfl; omega)
    | ((with_reducible apply lm_wJ); exact rfl; omega)
    | ((with_reducible apply lm_wB); (first | exact rfl | exact lm_arB (by omega) | exact lm_arM (by omega)); omega)
    | ((with_reducible apply lm_sAl); (first | exact rfl | exact lm_arB (by omega) | exact lm_arM (by omega)); omega)
    | ((with_reducible apply lm_iW); decide))
    refine lm_cV (lm_u199 (d := d + 3) rfl) ?_
    refine lm_CS_r h1 h12 C2 ?_
    refine lm_leT (by omega) (by omega) c ?_
    repeat (first
    | ((with_reducible apply lm_sI); exact rfl)
    | ((with_reducible apply lm_sR); exact rfl)
    | ((with_reducible apply lm_sS); exact rfl; exact rfl)
    | ((with_reducible apply lm_sL); exact rfl)
    | ((with_reducible apply lm_sP); exact rfl; exact rfl)
    | ((with_reducible apply lm_sPL); exact rfl; exact rfl)
    | ((with_reducible apply lm_sAA); exact rfl; first | exact rfl | exact lm_roO (by omega) | exact lm_roM (by omega))
    | ((with_reducible apply lm_sI); exact lm_fpL (by omega))
    | ((with_reducible apply lm_sR); exact lm_fpB (by omega))
    | ((with_reducible apply lm_sP); exact lm_fpL (by omega); exact rfl)
    | ((with_reducible apply lm_sS); exact lm_ocO (by omega); exact rfl)
    | ((with_reducible apply lm_sA); exact rfl; omega)
    | ((with_reducible apply lm_sJ); exact rfl; omega)
    | ((with_reducible apply lm_sB); (first | exact rfl | exact lm_arB (by omega) | exact lm_arM (by omega)); omega)
    | ((with_reducible apply lm_wA); exact rfl; omega)
    | ((with_reducible apply lm_wJ); exact rfl; omega)
    | ((with_reducible apply lm_wB); (first | exact rfl | exact lm_arB (by omega) | exact lm_arM (by omega)); omega)
    | ((with_reducible apply lm_sAl); (first | exact rfl | exact lm_arB (by omega) | exact lm_arM (by omega)); omega)
    | ((with_reducible apply lm_iW); decide))
    rw [lm_K0]
    refine lm_sCp har rfl (Or.inr rfl) (by omega) (by omega) ?_
    exact e
  · obtain ⟨m3, n3, e3, C3, f3⟩ := lm_cadd (xs := xs) (d := d) (x := x) (q := q) (v := v) (a := 0) (l := l) hT h1 h12 (by omega) har (by omega) hv (show h0.1 < lm_rate b by rw [e0]; show 0 < lm_rate b; omega) C2
    rw [lm_fl_row (show q ≠ 23 by omega), f1.1 q (by omega)] at C3
    obtain ⟨m4, n4, e4, f4⟩ := lm_cfin (xs := xs) (d := d) (x := x) (q := 23) (v := 128) (a := 0) (l := lm_dg b) hT h1 h12 (by omega) rfl (by omega) (by omega) (lm_dg_k h1 h12) (lm_hps_f _ _ _ (show h0.1 < lm_rate b by rw [e0]; show 0 < lm_rate b; omega)) C3
    rw [Nat.zero_add] at e4
    have f3C := f3.C h1 h12
    have f4C := f4.C h1 h12
    have fA := (f1.D.tr (lm_fD.f (q := 23) (a := 0) (b := 128) (g := fun _ => Int32.ofInt 0) (Or.inl rfl))).tr (f3C.D.tr f4C.D)
    have fB := fA.tr (lm_fD.f (m := m4) (n := n4) (q := 23) (a := 0) (b := lm_dg b) (g := fun i => lm_ou T b (lm_rate b) (lm_hf T b (lm_rate b) (lm_hps T b (lm_rate b) (fun i => lm_b8 (m q i)) l 0 h0)).2.2.1 (i - 0)) (Or.inl rfl))
    obtain ⟨m5, n5, e5, C5, f5⟩ := lm_csto (xs := xs) (d := d + 2) (x := x) (k := b) (m := lm_fil m4 23 0 (lm_dg b) (fun i => lm_ou T b (lm_rate b) (lm_hf T b (lm_rate b) (lm_hps T b (lm_rate b) (fun i => lm_b8 (m q i)) l 0 h0)).2.2.1 (i - 0))) (n := n4) h1 h12 (fB.2.2.1.trans g1) (fB.2.2.2.trans g2) hI (J := J) (b := bb)
    rw [← e0] at C5
    obtain ⟨m', n', e, C, K, f⟩ := tail m5 n5 C5 (fB.tr f5.D) (fun i hi => by
      unfold lm_kb
      rw [if_neg c, f5.1 23 (by omega), lm_rf]
      by_cases ci : i < lm_dg b
      · rw [if_pos (by omega), if_pos ci]
        rfl
      · rw [if_neg (by omega), if_neg ci, f4C.1 23 (by omega), f3C.1 23 (by omega), lm_fl_in (by omega)]
        decide)
    refine ⟨m', n', ?_, C, K, f⟩
    refine lm_cal_of (Y := lm_m138) rfl rfl (lm_e138_0 ?_)
    unfold lm_q138_0
    repeat (first
    | ((with_reducible apply lm_sI); exact rfl)
    | ((with_reducible apply lm_sR); exact rfl)
    | ((with_reducible apply lm_sS); exact rfl; exact rfl)
    | ((with_reducible apply lm_sL); exact rfl)
    | ((with_reducible apply lm_sP); exact rfl; exact rfl)
    | ((with_reducible apply lm_sPL); exact rfl; exact rfl)
    | ((with_reducible apply lm_sAA); exact rfl; first | exact rfl | exact lm_roO (by omega) | exact lm_roM (by omega))
    | ((with_reducible apply lm_sI); exact lm_fpL (by omega))
    | ((with_reducible apply lm_sR); exact lm_fpB (by omega))
    | ((with_reducible apply lm_sP); exact lm_fpL (by omega); exact rfl)
    | ((with_reducible apply lm_sS); exact lm_ocO (by omega); exact rfl)
    | ((with_reducible apply lm_sA); exact rfl; omega)
    | ((with_reducible apply lm_sJ); exact rfl; omega)
    | ((with_reducible apply lm_sB); (first | exact rfl | exact lm_arB (by omega) | exact lm_arM (by omega)); omega)
    | ((with_reducible apply lm_wA); exact rfl; omega)
    | ((with_reducible apply lm_wJ); exact rfl; omega)
    | ((with_reducible apply lm_wB); (first | exact rfl | exact lm_arB (by omega) | exact lm_arM (by omega)); omega)
    | ((with_reducible apply lm_sAl); (first | exact rfl | exact lm_arB (by omega) | exact lm_arM (by omega)); omega)
    | ((with_reducible apply lm_iW); decide))
    refine lm_cR e1 ?_
    repeat (first
    | ((with_reducible apply lm_sI); exact rfl)
    | ((with_reducible apply lm_sR); exact rfl)
    | ((with_reducible apply lm_sS); exact rfl; exact rfl)
    | ((with_reducible apply lm_sL); exact rfl)
    | ((with_reducible apply lm_sP); exact rfl; exact rfl)
    | ((with_reducible apply lm_sPL); exact rfl; exact rfl)
    | ((with_reducible apply lm_sAA); exact rfl; first | exact rfl | exact lm_roO (by omega) | exact lm_roM (by omega))
    | ((with_reducible apply lm_sI); exact lm_fpL (by omega))
    | ((with_reducible apply lm_sR); exact lm_fpB (by omega))
    | ((with_reducible apply lm_sP); exact lm_fpL (by omega); exact rfl)
    | ((with_reducible apply lm_sS); exact lm_ocO (by omega); exact rfl)
    | ((with_reducible apply lm_sA); exact rfl; omega)
    | ((with_reducible apply lm_sJ); exact rfl; omega)
    | ((with_reducible apply lm_sB); (first | exact rfl | exact lm_arB (by omega) | exact lm_arM (by omega)); omega)
    | ((with_reducible apply lm_wA); exact rfl; omega)
    | ((with_reducible apply lm_wJ); exact rfl; omega)
    | ((with_reducible apply lm_wB); (first | exact rfl | exact lm_arB (by omega) | exact lm_arM (by omega)); omega)
    | ((with_reducible apply lm_sAl); (first | exact rfl | exact lm_arB (by omega) | exact lm_arM (by omega)); omega)
    | ((with_reducible apply lm_iW); decide))
    refine lm_cV (lm_u199 (d := d + 3) rfl) ?_
    refine lm_CS_r h1 h12 C2 ?_
    refine lm_leF (by omega) (by omega) c ?_
    refine lm_selA h1 h12 ?_
    refine lm_cV e3 ?_
    repeat (first
    | ((with_reducible apply lm_sI); exact rfl)
    | ((with_reducible apply lm_sR); exact rfl)
    | ((with_reducible apply lm_sS); exact rfl; exact rfl)
    | ((with_reducible apply lm_sL); exact rfl)
    | ((with_reducible apply lm_sP); exact rfl; exact rfl)
    | ((with_reducible apply lm_sPL); exact rfl; exact rfl)
    | ((with_reducible apply lm_sAA); exact rfl; first | exact rfl | exact lm_roO (by omega) | exact lm_roM (by omega))
    | ((with_reducible apply lm_sI); exact lm_fpL (by omega))
    | ((with_reducible apply lm_sR); exact lm_fpB (by omega))
    | ((with_reducible apply lm_sP); exact lm_fpL (by omega); exact rfl)
    | ((with_reducible apply lm_sS); exact lm_ocO (by omega); exact rfl)
    | ((with_reducible apply lm_sA); exact rfl; omega)
    | ((with_reducible apply lm_sJ); exact rfl; omega)
    | ((with_reducible apply lm_sB); (first | exact rfl | exact lm_arB (by omega) | exact lm_arM (by omega)); omega)
    | ((with_reducible apply lm_wA); exact rfl; omega)
    | ((with_reducible apply lm_wJ); exact rfl; omega)
    | ((with_reducible apply lm_wB); (first | exact rfl | exact lm_arB (by omega) | exact lm_arM (by omega)); omega)
    | ((with_reducible apply lm_sAl); (first | exact rfl | exact lm_arB (by omega) | exact lm_arM (by omega)); omega)
    | ((with_reducible apply lm_iW); decide))
    refine lm_sSI h1 h12 ?_
    refine lm_selF h1 h12 ?_
    rw [lm_K0]
    refine lm_cV e4 ?_
    refine lm_selS h1 h12 ?_
    refine lm_cV e5 ?_
    exact e
end LMMB
