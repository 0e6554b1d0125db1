/-! ===== HMAC of the reference ===== -/
def lm_fg (m : lm_MI) (n : lm_ML) (m' : lm_MI) (n' : lm_ML) : Prop := (∀ q, q ≠ 203 → q ≠ 227 → q ≠ 228 → q ≠ 229 → m' q = m q) ∧ (∀ j, j ≠ 18 → j ≠ 19 → j ≠ 20 → m' 203 j = m 203 j) ∧ (∀ q, q ≠ 203 → q ≠ 223 → q ≠ 224 → q ≠ 225 → q ≠ 226 → n' q = n q)
theorem lm_fg.tr {m m1 m2 : lm_MI} {n n1 n2 : lm_ML} (h : lm_fg m n m1 n1) (g : lm_fg m1 n1 m2 n2) : lm_fg m n m2 n2 := ⟨fun q a b c d => (g.1 q a b c d).trans (h.1 q a b c d), fun j a b c => (g.2.1 j a b c).trans (h.2.1 j a b c), fun q a b c d e => (g.2.2 q a b c d e).trans (h.2.2 q a b c d e)⟩
theorem lm_fh.g {m m1 : lm_MI} {n n1 : lm_ML} (h : lm_fh m n m1 n1) : lm_fg m n m1 n1 := ⟨fun q a b _ _ => h.1 q a b, h.2.1, h.2.2⟩
theorem lm_fg.f {m : lm_MI} {n : lm_ML} {q a b : Nat} {g : Nat → Int32} (hq : q = 228 ∨ q = 229) : lm_fg m n (lm_fil m q a b g) n := ⟨fun p _ _ c d => lm_fl_row (by omega), fun j _ _ _ => by rw [lm_fl_row (by omega)], fun _ _ _ _ _ _ => rfl⟩
theorem lm_fg.tb {m m' : lm_MI} {n n' : lm_ML} (h : lm_fg m n m' n') : lm_tb m' n' = lm_tb m n := by
  unfold lm_tb
  rw [h.1 221 (by decide) (by decide) (by decide) (by decide), h.2.2 222 (by decide) (by decide) (by decide) (by decide) (by decide), h.2.2 216 (by decide) (by decide) (by decide) (by decide) (by decide)]
theorem lm_rate6 {b : Nat} (h1 : 1 ≤ b) (h2 : b ≤ 6) : lm_rate b = if b = 1 ∨ b = 4 then 64 else 128 := by
  have h := lm_rate_k h1 (show b ≤ 12 by omega)
  rw [h]
  by_cases c : b = 1 ∨ b = 4
  · rw [if_pos c, if_pos c]
  · rw [if_neg c, if_neg c, if_pos h2]
section LMRM
variable {sc : lm_H} {d b l : Nat} {m : lm_MI} {n : lm_ML} {x : lm_H × Nat × Nat} {h : lm_HV}
theorem lm_l64z {q : Nat} {R : Except Nat lm_R × lm_S} (K : lm_rn sc d lm_m64.2.2.2.2.1 (lm_reg lm_m64.2.2.2.2.2) (9, [(0, .ref 203), (1, .int (Int32.ofNat b)), (2, .ref q), (3, .int (Int32.ofNat 0)), (4, .int (Int32.ofNat l)), (5, .int (Int32.ofNat (lm_rate b))), (6, .int (Int32.ofNat 128))], []) (lm_w (lm_fil m 228 0 128 fun _ => Int32.ofInt 0) n x) = some R) : ∀ j t, t + j = 128 → lm_rn sc d lm_m64.2.2.2.2.1 (lm_reg lm_m64.2.2.2.2.2) (9, [(0, .ref 203), (1, .int (Int32.ofNat b)), (2, .ref q), (3, .int (Int32.ofNat 0)), (4, .int (Int32.ofNat l)), (5, .int (Int32.ofNat (lm_rate b))), (6, .int (Int32.ofNat t))], []) (lm_w (lm_fil m 228 0 t fun _ => Int32.ofInt 0) n x) = some R := by
  intro j
  induction j with
  | zero =>
    intro t ht
    have ht : t = 128 := ht
    subst ht
    exact K
  | succ j ih =>
    intro t ht
    have I := ih (t + 1) (by omega)
    rw [← lm_fl_step (g := fun _ => Int32.ofInt 0) (by omega)] at I
    refine lm_e64_9 ?_
    unfold lm_q64_9
    rw [lm_K128]
    refine lm_geF (by omega) (by omega) (by omega) ?_
    repeat (first
    | ((with_reducible apply lm_sI); exact rfl)
    | ((with_reducible apply lm_sR); exact rfl)
    | ((with_reducible apply lm_sS); exact rfl; exact rfl)
    | ((with_reducible apply lm_sL); exact rfl)
    | ((with_reducible apply lm_sP); exact rfl; exact rfl)
    | ((with_reducible apply lm_sPL); exact rfl; exact rfl)
    | ((with_reducible apply lm_sAA); exact rfl; first | exact rfl | exact lm_roO (by omega) | exact lm_roM (by omega))
    | ((with_reducible apply lm_sI); exact lm_fpL (by omega))
    | ((with_reducible apply lm_sR); exact lm_fpB (by omega))
    | ((with_reducible apply lm_sP); exact lm_fpL (by omega); exact rfl)
    | ((with_reducible apply lm_sS); exact lm_ocO (by omega); exact rfl)
    | ((with_reducible apply lm_sA); exact rfl; omega)
    | ((with_reducible apply lm_sJ); exact rfl; omega)
    | ((with_reducible apply lm_sB); (first | exact rfl | exact lm_arB (by omega) | exact lm_arM (by omega)); omega)
    | ((with_reducible apply lm_wA); exact rfl; omega)
    | ((with_reducible apply lm_wJ); exact rfl; omega)
    | ((with_reducible apply lm_wB); (first | exact rfl | exact lm_arB (by omega) | exact lm_arM (by omega)); omega)
    | ((with_reducible apply lm_sAl); (first | exact rfl | exact lm_arB (by omega) | exact lm_arM (by omega)); omega)
    | ((with_reducible apply lm_iW); decide))
    rw [show Int32.ofNat t + Int32.ofInt 1 = Int32.ofNat (t + 1) from lm_oa t 1]
    exact I
theorem lm_l64p (h2 : b ≤ 6) (hr128 : lm_rate b ≤ 128) {m0 : lm_MI} {n0 : lm_ML} : ∀ j t (m1 : lm_MI) (n1 : lm_ML) (h1 : lm_HV), t + j = lm_rate b → h1.1 < lm_rate b → lm_HS m1 n1 b (lm_rate b) h1 → lm_fh m0 n0 m1 n1 → lm_RH x m0 n0 b (lm_rate b) (lm_hps (lm_tb m0 n0) b (lm_rate b) (fun i => lm_b8 (m0 228 i) ^^^ Int32.ofInt 54) j t h1) none (lm_rn sc (d + 3) lm_m64.2.2.2.2.1 (lm_reg lm_m64.2.2.2.2.2) (87, [(0, .ref 203), (5, .int (Int32.ofNat (lm_rate b))), (6, .int (Int32.ofNat t))], []) (lm_w m1 n1 x)) := by
  intro j
  induction j with
  | zero =>
    intro t m1 n1 h1 ht hf hS hfr
    refine ⟨m1, n1, ?_, hS, hfr⟩
    refine lm_e64_87 ?_
    unfold lm_q64_87
    exact lm_geT (by omega) (by omega) (by omega) rfl
  | succ j ih =>
    intro t m1 n1 h1 ht hf hS hfr
    obtain ⟨m2, n2, c2, s2, f2⟩ := lm_u69 (sc := sc) (d := d) (x := x) (v := lm_b8 (m0 228 t) ^^^ Int32.ofInt 54) (lm_kr_rate (show b ≤ 12 by omega)) hf hS
    rw [hfr.tb] at s2
    obtain ⟨m3, n3, c3, s3, f3⟩ := ih (t + 1) m2 n2 _ (by omega) (lm_hp_lt hf) s2 (hfr.tr f2)
    refine ⟨m3, n3, ?_, s3, f3⟩
    refine lm_e64_87 ?_
    unfold lm_q64_87
    refine lm_geF (by omega) (by omega) (by omega) ?_
    repeat (first
    | ((with_reducible apply lm_sI); exact rfl)
    | ((with_reducible apply lm_sR); exact rfl)
    | ((with_reducible apply lm_sS); exact rfl; exact rfl)
    | ((with_reducible apply lm_sL); exact rfl)
    | ((with_reducible apply lm_sP); exact rfl; exact rfl)
    | ((with_reducible apply lm_sPL); exact rfl; exact rfl)
    | ((with_reducible apply lm_sAA); exact rfl; first | exact rfl | exact lm_roO (by omega) | exact lm_roM (by omega))
    | ((with_reducible apply lm_sI); exact lm_fpL (by omega))
    | ((with_reducible apply lm_sR); exact lm_fpB (by omega))
    | ((with_reducible apply lm_sP); exact lm_fpL (by omega); exact rfl)
    | ((with_reducible apply lm_sS); exact lm_ocO (by omega); exact rfl)
    | ((with_reducible apply lm_sA); exact rfl; omega)
    | ((with_reducible apply lm_sJ); exact rfl; omega)
    | ((with_reducible apply lm_sB); (first | exact rfl | exact lm_arB (by omega) | exact lm_arM (by omega)); omega)
    | ((with_reducible apply lm_wA); exact rfl; omega)
    | ((with_reducible apply lm_wJ); exact rfl; omega)
    | ((with_reducible apply lm_wB); (first | exact rfl | exact lm_arB (by omega) | exact lm_arM (by omega)); omega)
    | ((with_reducible apply lm_sAl); (first | exact rfl | exact lm_arB (by omega) | exact lm_arM (by omega)); omega)
    | ((with_reducible apply lm_iW); decide))
    rw [hfr.1 228 (by decide) (by decide)]
    refine lm_cV c2 ?_
    rw [show Int32.ofNat t + Int32.ofInt 1 = Int32.ofNat (t + 1) from lm_oa t 1]
    exact c3
theorem lm_u64 (h1 : 1 ≤ b) (h2 : b ≤ 6) {q v : Nat} (hq : q ≠ 203 ∧ q ≠ 227 ∧ q ≠ 228 ∧ q ≠ 229) (har : lm_ar q = some (1, v)) (hlv : l ≤ v) (hv : v ≤ 70000) {h0 : lm_HV} {J : Nat → Int64} {bb : Nat → Int32} (e0 : h0 = (0, Int64.ofNat 0, lm_st0' (n 215) (n 217) (n 218) b J, bb)) : ∃ m' n' h', lm_cal sc (d + 6) 64 [.ref 203, .int (Int32.ofNat b), .ref q, .int (Int32.ofNat 0), .int (Int32.ofNat l)] (lm_w m n x) = some (.ok none, lm_w m' n' x) ∧ lm_HS m' n' b (lm_rate b) h' ∧ lm_he b h' (lm_hps (lm_tb m n) b (lm_rate b) (fun i => lm_kb (lm_tb m n) b (m q) l h0 i ^^^ Int32.ofInt 54) (lm_rate b) 0 h0) ∧ (∀ i, i < 128 → lm_b8 (m' 228 i) = lm_b8 (lm_kb (lm_tb m n) b (m q) l h0 i)) ∧ lm_fg m n m' n' := by
  have hrp := lm_rate_pos b
  have h12 : b ≤ 12 := by omega
  have hr128 : lm_rate b ≤ 128 := by
    rw [lm_rate6 h1 h2]
    split <;> omega
  have hdg := lm_dg_le b
  have hkr := lm_kr_rate (k := b) h12
  have h00 : h0.1 < lm_rate b := by rw [e0]; show 0 < lm_rate b; omega
  have tail : ∀ (m4 : lm_MI) (n4 : lm_ML), lm_fg m n m4 n4 → (∀ i, i < 128 → lm_b8 (m4 228 i) = lm_b8 (lm_kb (lm_tb m n) b (m q) l h0 i)) → ∃ m' n' h', lm_rn sc (d + 5) lm_m64.2.2.2.2.1 (lm_reg lm_m64.2.2.2.2.2) (79, [(0, .ref 203), (1, .int (Int32.ofNat b)), (5, .int (Int32.ofNat (lm_rate b)))], []) (lm_w m4 n4 x) = some (.ok none, lm_w m' n' x) ∧ lm_HS m' n' b (lm_rate b) h' ∧ lm_he b h' (lm_hps (lm_tb m n) b (lm_rate b) (fun i => lm_kb (lm_tb m n) b (m q) l h0 i ^^^ Int32.ofInt 54) (lm_rate b) 0 h0) ∧ (∀ i, i < 128 → lm_b8 (m' 228 i) = lm_b8 (lm_kb (lm_tb m n) b (m q) l h0 i)) ∧ lm_fg m n m' n' := by
    intro m4 n4 f4 k4
    obtain ⟨m5, n5, e5, S5, f5⟩ := lm_u61 (sc := sc) (d := d + 3) (x := x) (k := b) (m := m4) (n := n4) h1 h12
    obtain ⟨m6, n6, e6, S6, f6⟩ := lm_l64p (sc := sc) (d := d + 2) (x := x) (m0 := m5) (n0 := n5) h2 hr128 (lm_rate b) 0 m5 n5 _ (by omega) (show (0 : Nat) < lm_rate b by omega) S5 lm_fh.rf
    refine ⟨m6, n6, _, ?_, S6, ?_, fun i hi => ?_, (f4.tr f5.g).tr f6.g⟩
    · refine lm_e64_79 ?_
      unfold lm_q64_79
      repeat (first
    | ((with_reducible apply lm_sI); exact rfl)
    | ((with_reducible apply lm_sR); exact rfl)
    | ((with_reducible apply lm_sS); exact rfl; exact rfl)
    | ((with_reducible apply lm_sL); exact rfl)
    | ((with_reducible apply lm_sP); exact rfl; exact rfl)
    | ((with_reducible apply lm_sPL); exact rfl; exact rfl)
    | ((with_reducible apply lm_sAA); exact rfl; first | exact rfl | exact lm_roO (by omega) | exact lm_roM (by omega))
    | ((with_reducible apply lm_sI); exact lm_fpL (by omega))
    | ((with_reducible apply lm_sR); exact lm_fpB (by omega))
    | ((with_reducible apply lm_sP); exact lm_fpL (by omega); exact rfl)
    | ((with_reducible apply lm_sS); exact lm_ocO (by omega); exact rfl)
    | ((with_reducible apply lm_sA); exact rfl; omega)
    | ((with_reducible apply lm_sJ); exact rfl; omega)
    | ((with_reducible apply lm_sB); (first | exact rfl | exact lm_arB (by omega) | exact lm_arM (by omega)); omega)
    | ((with_reducible apply lm_wA); exact rfl; omega)
    | ((with_reducible apply lm_wJ); exact rfl; omega)
    | ((with_reducible apply lm_wB); (first | exact rfl | exact lm_arB (by omega) | exact lm_arM (by omega)); omega)
    | ((with_reducible apply lm_sAl); (first | exact rfl | exact lm_arB (by omega) | exact lm_arM (by omega)); omega)
    | ((with_reducible apply lm_iW); decide))
      refine lm_cV e5 ?_
      exact e6
    · rw [f5.tb, f4.tb, f4.2.2 215 (by decide) (by decide) (by decide) (by decide) (by decide), f4.2.2 217 (by decide) (by decide) (by decide) (by decide) (by decide), f4.2.2 218 (by decide) (by decide) (by decide) (by decide) (by decide)]
      rw [lm_hps_b8 (g := fun i => lm_b8 (m5 228 i) ^^^ Int32.ofInt 54) (g' := fun i => lm_kb (lm_tb m n) b (m q) l h0 i ^^^ Int32.ofInt 54) (show ¬ 6 < b by omega) (lm_rate b) 0 _ (fun i _ hi => by
        rw [f5.1 228 (by decide) (by decide), k4 i (by omega), lm_b8x])]
      refine lm_he_hps hkr _ 0 _ _ (show (0 : Nat) < lm_rate b by omega) ?_
      rw [e0]
      exact lm_he_0
    · rw [f6.1 228 (by decide) (by decide), f5.1 228 (by decide) (by decide)]
      exact k4 i hi
  have top : ∀ R, lm_rn sc (d + 5) lm_m64.2.2.2.2.1 (lm_reg lm_m64.2.2.2.2.2) (9, [(0, .ref 203), (1, .int (Int32.ofNat b)), (2, .ref q), (3, .int (Int32.ofNat 0)), (4, .int (Int32.ofNat l)), (5, .int (Int32.ofNat (lm_rate b))), (6, .int (Int32.ofNat 128))], []) (lm_w (lm_fil m 228 0 128 fun _ => Int32.ofInt 0) n x) = some R → lm_cal sc (d + 6) 64 [.ref 203, .int (Int32.ofNat b), .ref q, .int (Int32.ofNat 0), .int (Int32.ofNat l)] (lm_w m n x) = some R := by
    intro R K
    have L := lm_l64z (sc := sc) (d := d + 5) (m := m) (n := n) (x := x) K 128 0 rfl
    rw [lm_fl_nil] at L
    refine lm_cal_of (Y := lm_m64) rfl rfl (lm_e64_0 ?_)
    unfold lm_q64_0
    refine lm_cI (lm_u146 (d := d + 4) h12) ?_
    rw [← lm_rate6 h1 h2]
    exact L
  have fz : lm_fg m n (lm_fil m 228 0 128 fun _ => Int32.ofInt 0) n := lm_fg.f (Or.inl rfl)
  by_cases c : l ≤ lm_rate b
  · obtain ⟨m', n', h', e, S, H, K, f⟩ := tail (lm_fil (lm_fil m 228 0 128 fun _ => Int32.ofInt 0) 228 0 (0 + l) (fun i => lm_b8 (lm_fil m 228 0 128 (fun _ => Int32.ofInt 0) q (0 + (i - 0))))) n (fz.tr (lm_fg.f (Or.inl rfl))) (fun i hi => by
      unfold lm_kb
      rw [if_pos c, lm_rf]
      by_cases ci : i < l
      · rw [if_pos (by omega), if_pos ci, lm_fl_row hq.2.2.1, show 0 + (i - 0) = i by omega]
      · rw [if_neg (by omega), if_neg ci, lm_fl_in (by omega)]
        decide)
    refine ⟨m', n', h', top _ ?_, S, H, K, f⟩
    refine lm_e64_9 ?_
    unfold lm_q64_9
    rw [lm_K128]
    refine lm_geT (by omega) (by omega) (by omega) ?_
    refine lm_leT (by omega) (by omega) c ?_
    repeat (first
    | ((with_reducible apply lm_sI); exact rfl)
    | ((with_reducible apply lm_sR); exact rfl)
    | ((with_reducible apply lm_sS); exact rfl; exact rfl)
    | ((with_reducible apply lm_sL); exact rfl)
    | ((with_reducible apply lm_sP); exact rfl; exact rfl)
    | ((with_reducible apply lm_sPL); exact rfl; exact rfl)
    | ((with_reducible apply lm_sAA); exact rfl; first | exact rfl | exact lm_roO (by omega) | exact lm_roM (by omega))
    | ((with_reducible apply lm_sI); exact lm_fpL (by omega))
    | ((with_reducible apply lm_sR); exact lm_fpB (by omega))
    | ((with_reducible apply lm_sP); exact lm_fpL (by omega); exact rfl)
    | ((with_reducible apply lm_sS); exact lm_ocO (by omega); exact rfl)
    | ((with_reducible apply lm_sA); exact rfl; omega)
    | ((with_reducible apply lm_sJ); exact rfl; omega)
    | ((with_reducible apply lm_sB); (first | exact rfl | exact lm_arB (by omega) | exact lm_arM (by omega)); omega)
    | ((with_reducible apply lm_wA); exact rfl; omega)
    | ((with_reducible apply lm_wJ); exact rfl; omega)
    | ((with_reducible apply lm_wB); (first | exact rfl | exact lm_arB (by omega) | exact lm_arM (by omega)); omega)
    | ((with_reducible apply lm_sAl); (first | exact rfl | exact lm_arB (by omega) | exact lm_arM (by omega)); omega)
    | ((with_reducible apply lm_iW); decide))
    rw [lm_K0]
    refine lm_cV (lm_u75 (d := d + 4) har rfl hq.2.2.1 (by omega) (by omega) hv (by decide)) ?_
    exact e
  · obtain ⟨m2, n2, e2, S2, f2⟩ := lm_u61 (sc := sc) (d := d + 3) (x := x) (k := b) (m := lm_fil m 228 0 128 fun _ => Int32.ofInt 0) (n := n) h1 h12
    obtain ⟨m3, n3, e3, S3, f3⟩ := lm_u62 (sc := sc) (d := d + 1) (x := x) (q := q) (v := v) (a := 0) (l := l) hkr ⟨hq.1, hq.2.1⟩ har (by omega) hv (show (0 : Nat) < lm_rate b by omega) S2
    rw [f2.1 q hq.1 hq.2.1, lm_fl_row hq.2.2.1, f2.tb, fz.tb] at S3
    obtain ⟨m4, n4, e4, f4⟩ := lm_u63 (sc := sc) (d := d) (x := x) (q := 228) (v := 128) (a := 0) (l := lm_dg b) hkr hrp ⟨by decide, by decide, by decide⟩ rfl (by omega) (by omega) (lm_dg_k h1 h12) (lm_hps_f _ _ _ (show (0 : Nat) < lm_rate b by omega)) S3
    rw [Nat.zero_add, f3.tb, f2.tb, fz.tb] at e4
    obtain ⟨m', n', h', e, S, H, K, f⟩ := tail (lm_fil m4 228 0 (lm_dg b) (fun i => lm_ou (lm_tb m n) b (lm_rate b) (lm_hf (lm_tb m n) b (lm_rate b) (lm_hps (lm_tb m n) b (lm_rate b) (fun i => lm_b8 (m q i)) l 0 (0, Int64.ofNat 0, lm_st0' (n 215) (n 217) (n 218) b (n 223), (lm_fil m 228 0 128 fun _ => Int32.ofInt 0) 227))).2.2.1 (i - 0))) n4 (((fz.tr f2.g).tr (f3.g.tr f4.g)).tr (lm_fg.f (a := 0) (b := lm_dg b) (Or.inl rfl))) (fun i hi => by
      unfold lm_kb
      rw [if_neg c, lm_rf]
      by_cases ci : i < lm_dg b
      · rw [if_pos (by omega), if_pos ci]
        have := lm_dg_k h1 h12 h2
        exact congrArg lm_b8 (lm_he_out h12 (lm_hps_f _ _ _ (show (0 : Nat) < lm_rate b by omega)) (lm_he_hps hkr _ 0 _ _ (show (0 : Nat) < lm_rate b by omega) (by rw [e0]; exact lm_he_0)) (fun _ => ⟨by omega, fun hr => by have := this.2 hr; omega⟩))
      · rw [if_neg (by omega), if_neg ci, f4.1 228 (by decide) (by decide), f3.1 228 (by decide) (by decide), f2.1 228 (by decide) (by decide), lm_fl_in (by omega)]
        decide)
    refine ⟨m', n', h', top _ ?_, S, H, K, f⟩
    refine lm_e64_9 ?_
    unfold lm_q64_9
    rw [lm_K128]
    refine lm_geT (by omega) (by omega) (by omega) ?_
    refine lm_leF (by omega) (by omega) c ?_
    repeat (first
    | ((with_reducible apply lm_sI); exact rfl)
    | ((with_reducible apply lm_sR); exact rfl)
    | ((with_reducible apply lm_sS); exact rfl; exact rfl)
    | ((with_reducible apply lm_sL); exact rfl)
    | ((with_reducible apply lm_sP); exact rfl; exact rfl)
    | ((with_reducible apply lm_sPL); exact rfl; exact rfl)
    | ((with_reducible apply lm_sAA); exact rfl; first | exact rfl | exact lm_roO (by omega) | exact lm_roM (by omega))
    | ((with_reducible apply lm_sI); exact lm_fpL (by omega))
    | ((with_reducible apply lm_sR); exact lm_fpB (by omega))
    | ((with_reducible apply lm_sP); exact lm_fpL (by omega); exact rfl)
    | ((with_reducible apply lm_sS); exact lm_ocO (by omega); exact rfl)
    | ((with_reducible apply lm_sA); exact rfl; omega)
    | ((with_reducible apply lm_sJ); exact rfl; omega)
    | ((with_reducible apply lm_sB); (first | exact rfl | exact lm_arB (by omega) | exact lm_arM (by omega)); omega)
    | ((with_reducible apply lm_wA); exact rfl; omega)
    | ((with_reducible apply lm_wJ); exact rfl; omega)
    | ((with_reducible apply lm_wB); (first | exact rfl | exact lm_arB (by omega) | exact lm_arM (by omega)); omega)
    | ((with_reducible apply lm_sAl); (first | exact rfl | exact lm_arB (by omega) | exact lm_arM (by omega)); omega)
    | ((with_reducible apply lm_iW); decide))
    refine lm_cV e2 ?_
    repeat (first
    | ((with_reducible apply lm_sI); exact rfl)
    | ((with_reducible apply lm_sR); exact rfl)
    | ((with_reducible apply lm_sS); exact rfl; exact rfl)
    | ((with_reducible apply lm_sL); exact rfl)
    | ((with_reducible apply lm_sP); exact rfl; exact rfl)
    | ((with_reducible apply lm_sPL); exact rfl; exact rfl)
    | ((with_reducible apply lm_sAA); exact rfl; first | exact rfl | exact lm_roO (by omega) | exact lm_roM (by omega))
    | ((with_reducible apply lm_sI); exact lm_fpL (by omega))
    | ((with_reducible apply lm_sR); exact lm_fpB (by omega))
    | ((with_reducible apply lm_sP); exact lm_fpL (by omega); exact rfl)
    | ((with_reducible apply lm_sS); exact lm_ocO (by omega); exact rfl)
    | ((with_reducible apply lm_sA); exact rfl; omega)
    | ((with_reducible apply lm_sJ); exact rfl; omega)
    | ((with_reducible apply lm_sB); (first | exact rfl | exact lm_arB (by omega) | exact lm_arM (by omega)); omega)
    | ((with_reducible apply lm_wA); exact rfl; omega)
    | ((with_reducible apply lm_wJ); exact rfl; omega)
    | ((with_reducible apply lm_wB); (first | exact rfl | exact lm_arB (by omega) | exact lm_arM (by omega)); omega)
    | ((with_reducible apply lm_sAl); (first | exact rfl | exact lm_arB (by omega) | exact lm_arM (by omega)); omega)
    | ((with_reducible apply lm_iW); decide))
    refine lm_cV e3 ?_
    repeat (first
    | ((with_reducible apply lm_sI); exact rfl)
    | ((with_reducible apply lm_sR); exact rfl)
    | ((with_reducible apply lm_sS); exact rfl; exact rfl)
    | ((with_reducible apply lm_sL); exact rfl)
    | ((with_reducible apply lm_sP); exact rfl; exact rfl)
    | ((with_reducible apply lm_sPL); exact rfl; exact rfl)
    | ((with_reducible apply lm_sAA); exact rfl; first | exact rfl | exact lm_roO (by omega) | exact lm_roM (by omega))
    | ((with_reducible apply lm_sI); exact lm_fpL (by omega))
    | ((with_reducible apply lm_sR); exact lm_fpB (by omega))
    | ((with_reducible apply lm_sP); exact lm_fpL (by omega); exact rfl)
    | ((with_reducible apply lm_sS); exact lm_ocO (by omega); exact rfl)
    | ((with_reducible apply lm_sA); exact rfl; omega)
    | ((with_reducible apply lm_sJ); exact rfl; omega)
    | ((with_reducible apply lm_sB); (first | exact rfl | exact lm_arB (by omega) | exact lm_arM (by omega)); omega)
    | ((with_reducible apply lm_wA); exact rfl; omega)
    | ((with_reducible apply lm_wJ); exact rfl; omega)
    | ((with_reducible apply lm_wB); (first | exact rfl | exact lm_arB (by omega) | exact lm_arM (by omega)); omega)
    | ((with_reducible apply lm_sAl); (first | exact rfl | exact lm_arB (by omega) | exact lm_arM (by omega)); omega)
    | ((with_reducible apply lm_iW); decide))
    refine lm_cI (lm_u60 (d := d + 4) h1 h12) ?_
    repeat (first
    | ((with_reducible apply lm_sI); exact rfl)
    | ((with_reducible apply lm_sR); exact rfl)
    | ((with_reducible apply lm_sS); exact rfl; exact rfl)
    | ((with_reducible apply lm_sL); exact rfl)
    | ((with_reducible apply lm_sP); exact rfl; exact rfl)
    | ((with_reducible apply lm_sPL); exact rfl; exact rfl)
    | ((with_reducible apply lm_sAA); exact rfl; first | exact rfl | exact lm_roO (by omega) | exact lm_roM (by omega))
    | ((with_reducible apply lm_sI); exact lm_fpL (by omega))
    | ((with_reducible apply lm_sR); exact lm_fpB (by omega))
    | ((with_reducible apply lm_sP); exact lm_fpL (by omega); exact rfl)
    | ((with_reducible apply lm_sS); exact lm_ocO (by omega); exact rfl)
    | ((with_reducible apply lm_sA); exact rfl; omega)
    | ((with_reducible apply lm_sJ); exact rfl; omega)
    | ((with_reducible apply lm_sB); (first | exact rfl | exact lm_arB (by omega) | exact lm_arM (by omega)); omega)
    | ((with_reducible apply lm_wA); exact rfl; omega)
    | ((with_reducible apply lm_wJ); exact rfl; omega)
    | ((with_reducible apply lm_wB); (first | exact rfl | exact lm_arB (by omega) | exact lm_arM (by omega)); omega)
    | ((with_reducible apply lm_sAl); (first | exact rfl | exact lm_arB (by omega) | exact lm_arM (by omega)); omega)
    | ((with_reducible apply lm_iW); decide))
    rw [lm_K0]
    refine lm_cV e4 ?_
    exact e
end LMRM
