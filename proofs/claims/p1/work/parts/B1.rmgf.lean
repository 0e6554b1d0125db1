/-! ===== MGF1 of the reference ===== -/
def lm_fmk (p : Nat) (m : lm_MI) (n : lm_ML) (m' : lm_MI) (n' : lm_ML) : Prop := (∀ q, q ≠ 203 → q ≠ 227 → q ≠ 228 → q ≠ 229 → q ≠ p → m' q = m q) ∧ (∀ j, j ≠ 18 → j ≠ 19 → j ≠ 20 → m' 203 j = m 203 j) ∧ (∀ q, q ≠ 203 → q ≠ 223 → q ≠ 224 → q ≠ 225 → q ≠ 226 → n' q = n q)
theorem lm_fmk.tr {p : Nat} {m m1 m2 : lm_MI} {n n1 n2 : lm_ML} (h : lm_fmk p m n m1 n1) (g : lm_fmk p m1 n1 m2 n2) : lm_fmk p m n m2 n2 := ⟨fun q a b c d e => (g.1 q a b c d e).trans (h.1 q a b c d e), fun j a b c => (g.2.1 j a b c).trans (h.2.1 j a b c), fun q a b c d e => (g.2.2 q a b c d e).trans (h.2.2 q a b c d e)⟩
theorem lm_fg.p {p : Nat} {m m1 : lm_MI} {n n1 : lm_ML} (h : lm_fg m n m1 n1) : lm_fmk p m n m1 n1 := ⟨fun q a b c d _ => h.1 q a b c d, h.2.1, h.2.2⟩
theorem lm_fmk.tb {p : Nat} {m m' : lm_MI} {n n' : lm_ML} (hp : p ≠ 221) (h : lm_fmk p m n m' n') : lm_tb m' n' = lm_tb m n := by
  unfold lm_tb
  rw [h.1 221 (by decide) (by decide) (by decide) (by decide) (fun g => hp g.symm), h.2.2 222 (by decide) (by decide) (by decide) (by decide) (by decide), h.2.2 216 (by decide) (by decide) (by decide) (by decide) (by decide)]
section LMRG
variable {sc : lm_H} {d b l L : Nat} {m : lm_MI} {n : lm_ML} {x : lm_H × Nat × Nat} {h : lm_HV}
theorem lm_l66 (h1 : 1 ≤ b) (h2 : b ≤ 6) {q v p w : Nat} (hq : q ≠ 203 ∧ q ≠ 227 ∧ q ≠ 228 ∧ q ≠ 229) (hp : p ≠ 203 ∧ p ≠ 227 ∧ p ≠ 228 ∧ p ≠ 229 ∧ p ≠ 221) (hqp : q ≠ p) (har : lm_ar q = some (1, v)) (hl : l ≤ v) (hv : v ≤ 70000) (hap : lm_ar p = some (1, w)) (hL : L ≤ w) (hw : w ≤ 70000) {h0 : lm_HV} {J : Nat → Int64} {bb : Nat → Int32} (e0 : h0 = (0, Int64.ofNat 0, lm_st0' (n 215) (n 217) (n 218) b J, bb)) (eh : h = lm_hps (lm_tb m n) b (lm_rate b) (fun i => lm_b8 (m q i)) l 0 h0) : ∀ u j (M : lm_MI) (N : lm_ML), L ≤ j * lm_dg b + u → j * lm_dg b ≤ L + 64 → (∀ i, i < L → i < j * lm_dg b → M p i = lm_b8 (lm_mg (lm_tb m n) b h i)) → lm_fmk p m n M N → ∃ m' n', lm_rn sc (d + 5) lm_m66.2.2.2.2.1 (lm_reg lm_m66.2.2.2.2.2) (9, [(0, .ref 203), (1, .int (Int32.ofNat b)), (2, .ref q), (3, .int (Int32.ofNat l)), (4, .ref p), (5, .int (Int32.ofNat 0)), (6, .int (Int32.ofNat L)), (7, .int (Int32.ofNat (lm_dg b))), (8, .int (Int32.ofNat j))], []) (lm_w M N x) = some (.ok none, lm_w m' n' x) ∧ (∀ i, i < L → m' p i = lm_b8 (lm_mg (lm_tb m n) b h i)) ∧ lm_fmk p m n m' n' := by
  have hrp := lm_rate_pos b
  have h12 : b ≤ 12 := by omega
  have hdg := lm_dg_le b
  have hdk := lm_dg_k h1 h12 h2
  have hkr := lm_kr_rate (k := b) h12
  intro u
  induction u with
  | zero =>
    intro j M N hu hj hm hfr
    refine ⟨M, N, ?_, fun i hi => hm i hi (by omega), hfr⟩
    refine lm_e66_9 ?_
    unfold lm_q66_9
    rw [lm_om]
    exact lm_geT (by omega) (by omega) (by omega) rfl
  | succ u ih =>
    intro j M N hu hj hm hfr
    by_cases c : L ≤ j * lm_dg b
    · refine ⟨M, N, ?_, fun i hi => hm i hi (by omega), hfr⟩
      refine lm_e66_9 ?_
      unfold lm_q66_9
      rw [lm_om]
      exact lm_geT (by omega) (by omega) (by omega) rfl
    · have eT := hfr.tb hp.2.2.2.2
      obtain ⟨m1, n1, e1, S1, f1⟩ := lm_u61 (sc := sc) (d := d + 3) (x := x) (k := b) (m := M) (n := N) h1 h12
      obtain ⟨m2, n2, e2, S2, f2⟩ := lm_u62 (sc := sc) (d := d + 1) (x := x) (q := q) (v := v) (a := 0) (l := l) hkr ⟨hq.1, hq.2.1⟩ har (by omega) hv (show (0 : Nat) < lm_rate b by omega) S1
      rw [f1.1 q hq.1 hq.2.1, hfr.1 q hq.1 hq.2.1 hq.2.2.1 hq.2.2.2 hqp, f1.tb, eT] at S2
      have F2 := f1.tr f2
      have l2 := lm_hps_f (T := lm_tb m n) (k := b) (g := fun i => lm_b8 (m q i)) l 0 (0, Int64.ofNat 0, lm_st0' (N 215) (N 217) (N 218) b (N 223), M 227) (show (0 : Nat) < lm_rate b by omega)
      generalize eH : lm_hps (lm_tb m n) b (lm_rate b) (fun i => lm_b8 (m q i)) l 0 (0, Int64.ofNat 0, lm_st0' (N 215) (N 217) (N 218) b (N 223), M 227) = H at S2 l2
      obtain ⟨m3, n3, e3, S3, f3, l3⟩ := lm_pstep (sc := sc) (d := d + 2) (x := x) (m0 := M) (n0 := N) (v := Int32.ofNat j >>> ((Int32.ofInt 24) &&& 31)) hkr l2 S2 F2
      obtain ⟨m4, n4, e4, S4, f4, l4⟩ := lm_pstep (sc := sc) (d := d + 2) (x := x) (m0 := M) (n0 := N) (v := Int32.ofNat j >>> ((Int32.ofInt 24 + Int32.ofInt (-8)) &&& 31)) hkr l3 S3 f3
      obtain ⟨m5, n5, e5, S5, f5, l5⟩ := lm_pstep (sc := sc) (d := d + 2) (x := x) (m0 := M) (n0 := N) (v := Int32.ofNat j >>> ((Int32.ofInt 24 + Int32.ofInt (-8) + Int32.ofInt (-8)) &&& 31)) hkr l4 S4 f4
      obtain ⟨m6, n6, e6, S6, f6, l6⟩ := lm_pstep (sc := sc) (d := d + 2) (x := x) (m0 := M) (n0 := N) (v := Int32.ofNat j >>> ((Int32.ofInt 24 + Int32.ofInt (-8) + Int32.ofInt (-8) + Int32.ofInt (-8)) &&& 31)) hkr l5 S5 f5
      have hk6 : ¬ 6 < b := by omega
      have eC : lm_hp (lm_tb M N) b (lm_rate b) (Int32.ofNat j >>> ((Int32.ofInt 24 + Int32.ofInt (-8) + Int32.ofInt (-8) + Int32.ofInt (-8)) &&& 31)) (lm_hp (lm_tb M N) b (lm_rate b) (Int32.ofNat j >>> ((Int32.ofInt 24 + Int32.ofInt (-8) + Int32.ofInt (-8)) &&& 31)) (lm_hp (lm_tb M N) b (lm_rate b) (Int32.ofNat j >>> ((Int32.ofInt 24 + Int32.ofInt (-8)) &&& 31)) (lm_hp (lm_tb M N) b (lm_rate b) (Int32.ofNat j >>> ((Int32.ofInt 24) &&& 31)) H))) = lm_hps (lm_tb m n) b (lm_rate b) (lm_ctr4 (Int32.ofNat j)) 4 0 H := by
        show _ = lm_hp (lm_tb m n) b (lm_rate b) (lm_b8 (Int32.ofNat j)) (lm_hp (lm_tb m n) b (lm_rate b) (lm_b8 (Int32.ofNat j >>> 8)) (lm_hp (lm_tb m n) b (lm_rate b) (lm_b8 (Int32.ofNat j >>> 16)) (lm_hp (lm_tb m n) b (lm_rate b) (lm_b8 (Int32.ofNat j >>> 24)) H)))
        rw [lm_hp_b8 hk6, lm_hp_b8 hk6, lm_hp_b8 hk6, lm_hp_b8 hk6, eT, show (Int32.ofInt 24 + Int32.ofInt (-8) + Int32.ofInt (-8) + Int32.ofInt (-8)) &&& 31 = (0 : Int32) by decide, show (Int32.ofInt 24 + Int32.ofInt (-8) + Int32.ofInt (-8)) &&& 31 = (8 : Int32) by decide, show (Int32.ofInt 24 + Int32.ofInt (-8)) &&& 31 = (16 : Int32) by decide, show (Int32.ofInt 24) &&& 31 = (24 : Int32) by decide, show Int32.ofNat j >>> (0 : Int32) = Int32.ofNat j by simp]
      rw [eC] at S6 l6
      obtain ⟨m7, n7, e7, f7⟩ := lm_u63 (sc := sc) (d := d) (x := x) (q := 229) (v := 64) (a := 0) (l := lm_dg b) hkr hrp ⟨by decide, by decide, by decide⟩ rfl (by omega) (by omega) (lm_dg_k h1 h12) l6 S6
      rw [Nat.zero_add, f6.tb, eT] at e7
      generalize eg : (fun i => lm_ou (lm_tb m n) b (lm_rate b) (lm_hf (lm_tb m n) b (lm_rate b) (lm_hps (lm_tb m n) b (lm_rate b) (lm_ctr4 (Int32.ofNat j)) 4 0 H)).2.2.1 (i - 0)) = go at e7
      have heH : lm_he b H h := by
        rw [← eH, eh, e0, hfr.2.2 215 (by decide) (by decide) (by decide) (by decide) (by decide), hfr.2.2 217 (by decide) (by decide) (by decide) (by decide) (by decide), hfr.2.2 218 (by decide) (by decide) (by decide) (by decide) (by decide)]
        exact lm_he_hps hkr _ 0 _ _ (show (0 : Nat) < lm_rate b by omega) lm_he_0
      have hgo : ∀ i, i < lm_dg b → go i = lm_mg (lm_tb m n) b h (j * lm_dg b + i) := fun i hi => by
        rw [← eg]
        unfold lm_mg
        rw [Nat.add_comm (j * lm_dg b) i, Nat.add_mul_div_right _ _ (by omega), Nat.div_eq_of_lt hi, Nat.add_mul_mod_self_right, Nat.mod_eq_of_lt hi, Nat.zero_add]
        exact lm_he_out h12 (lm_hps_f _ _ _ l2) (lm_he_hps hkr _ 0 _ _ l2 heH) (fun _ => ⟨by show i < 64; omega, fun hr => by have := hdk.2 hr; show i < 32; omega⟩)
      have FA : lm_fmk p M N (lm_fil m7 229 0 (lm_dg b) go) n7 := ((f6.tr f7).g.tr (lm_fg.f (Or.inr rfl))).p
      have mv : ∀ k, k ≤ lm_dg b → j * lm_dg b + k ≤ L → k = min (lm_dg b) (L - j * lm_dg b) → ∃ m' n', lm_rn sc (d + 5) lm_m66.2.2.2.2.1 (lm_reg lm_m66.2.2.2.2.2) (107, [(0, .ref 203), (1, .int (Int32.ofNat b)), (2, .ref q), (3, .int (Int32.ofNat l)), (4, .ref p), (5, .int (Int32.ofNat 0)), (6, .int (Int32.ofNat L)), (7, .int (Int32.ofNat (lm_dg b))), (8, .int (Int32.ofNat j))], [.int (Int32.ofNat k), .int (Int32.ofNat (j * lm_dg b)), .ref p, .int (Int32.ofNat 0), .ref 229]) (lm_w (lm_fil m7 229 0 (lm_dg b) go) n7 x) = some (.ok none, lm_w m' n' x) ∧ (∀ i, i < L → m' p i = lm_b8 (lm_mg (lm_tb m n) b h i)) ∧ lm_fmk p m n m' n' := by
        intro k k1 k2 k3
        have em : (j + 1) * lm_dg b = j * lm_dg b + lm_dg b := by rw [Nat.add_mul, Nat.one_mul]
        have FB : lm_fmk p (lm_fil m7 229 0 (lm_dg b) go) n7 (lm_fil (lm_fil m7 229 0 (lm_dg b) go) p (j * lm_dg b) (j * lm_dg b + k) (fun i => lm_b8 (lm_fil m7 229 0 (lm_dg b) go 229 (0 + (i - j * lm_dg b))))) n7 := ⟨fun z _ _ _ _ hz => lm_fl_row hz, fun z _ _ _ => by rw [lm_fl_row (fun g => hp.1 g.symm)], fun _ _ _ _ _ _ => rfl⟩
        have ep : (lm_fil m7 229 0 (lm_dg b) go) p = M p := by rw [lm_fl_row hp.2.2.2.1, f7.1 p hp.1 hp.2.1, f6.1 p hp.1 hp.2.1]
        obtain ⟨m', n', e, K, f⟩ := ih (j + 1) _ n7 (by omega) (by omega) (fun i hi hi2 => by
          rw [lm_rf]
          by_cases ci : i < j * lm_dg b
          · rw [if_neg (by omega), ep]
            exact hm i hi ci
          · rw [if_pos (by omega), lm_fl_in (by omega), hgo _ (by omega)]
            exact congrArg (fun z => lm_b8 (lm_mg (lm_tb m n) b h z)) (by omega)) ((hfr.tr FA).tr FB)
        refine ⟨m', n', ?_, K, f⟩
        refine lm_e66_107 ?_
        unfold lm_q66_107
        refine lm_cV (lm_u75 (d := d + 4) rfl hap (fun g => hp.2.2.2.1 g.symm) (by omega) (by omega) (by decide) hw) ?_
        rw [show Int32.ofNat j + Int32.ofInt 1 = Int32.ofNat (j + 1) from lm_oa j 1]
        exact e
      obtain ⟨m', n', e, K, f⟩ := mv (min (lm_dg b) (L - j * lm_dg b)) (by omega) (by omega) rfl
      refine ⟨m', n', ?_, K, f⟩
      refine lm_e66_9 ?_
      unfold lm_q66_9
      rw [lm_om]
      refine lm_geF (by omega) (by omega) c ?_
      repeat (first
    | ((with_reducible apply lm_sI); exact rfl)
    | ((with_reducible apply lm_sR); exact rfl)
    | ((with_reducible apply lm_sS); exact rfl; exact rfl)
    | ((with_reducible apply lm_sL); exact rfl)
    | ((with_reducible apply lm_sP); exact rfl; exact rfl)
    | ((with_reducible apply lm_sPL); exact rfl; exact rfl)
    | ((with_reducible apply lm_sAA); exact rfl; first | exact rfl | exact lm_roO (by omega) | exact lm_roM (by omega))
    | ((with_reducible apply lm_sI); exact lm_fpL (by omega))
    | ((with_reducible apply lm_sR); exact lm_fpB (by omega))
    | ((with_reducible apply lm_sP); exact lm_fpL (by omega); exact rfl)
    | ((with_reducible apply lm_sS); exact lm_ocO (by omega); exact rfl)
    | ((with_reducible apply lm_sA); exact rfl; omega)
    | ((with_reducible apply lm_sJ); exact rfl; omega)
    | ((with_reducible apply lm_sB); (first | exact rfl | exact lm_arB (by omega) | exact lm_arM (by omega)); omega)
    | ((with_reducible apply lm_wA); exact rfl; omega)
    | ((with_reducible apply lm_wJ); exact rfl; omega)
    | ((with_reducible apply lm_wB); (first | exact rfl | exact lm_arB (by omega) | exact lm_arM (by omega)); omega)
    | ((with_reducible apply lm_sAl); (first | exact rfl | exact lm_arB (by omega) | exact lm_arM (by omega)); omega)
    | ((with_reducible apply lm_iW); decide))
      refine lm_cV e1 ?_
      repeat (first
    | ((with_reducible apply lm_sI); exact rfl)
    | ((with_reducible apply lm_sR); exact rfl)
    | ((with_reducible apply lm_sS); exact rfl; exact rfl)
    | ((with_reducible apply lm_sL); exact rfl)
    | ((with_reducible apply lm_sP); exact rfl; exact rfl)
    | ((with_reducible apply lm_sPL); exact rfl; exact rfl)
    | ((with_reducible apply lm_sAA); exact rfl; first | exact rfl | exact lm_roO (by omega) | exact lm_roM (by omega))
    | ((with_reducible apply lm_sI); exact lm_fpL (by omega))
    | ((with_reducible apply lm_sR); exact lm_fpB (by omega))
    | ((with_reducible apply lm_sP); exact lm_fpL (by omega); exact rfl)
    | ((with_reducible apply lm_sS); exact lm_ocO (by omega); exact rfl)
    | ((with_reducible apply lm_sA); exact rfl; omega)
    | ((with_reducible apply lm_sJ); exact rfl; omega)
    | ((with_reducible apply lm_sB); (first | exact rfl | exact lm_arB (by omega) | exact lm_arM (by omega)); omega)
    | ((with_reducible apply lm_wA); exact rfl; omega)
    | ((with_reducible apply lm_wJ); exact rfl; omega)
    | ((with_reducible apply lm_wB); (first | exact rfl | exact lm_arB (by omega) | exact lm_arM (by omega)); omega)
    | ((with_reducible apply lm_sAl); (first | exact rfl | exact lm_arB (by omega) | exact lm_arM (by omega)); omega)
    | ((with_reducible apply lm_iW); decide))
      rw [lm_K0]
      refine lm_cV e2 ?_
      refine lm_e66_35 ?_
      unfold lm_q66_35
      refine lm_iF (show ¬ Int32.ofInt 24 < 0 by decide) ?_
      repeat (first
    | ((with_reducible apply lm_sI); exact rfl)
    | ((with_reducible apply lm_sR); exact rfl)
    | ((with_reducible apply lm_sS); exact rfl; exact rfl)
    | ((with_reducible apply lm_sL); exact rfl)
    | ((with_reducible apply lm_sP); exact rfl; exact rfl)
    | ((with_reducible apply lm_sPL); exact rfl; exact rfl)
    | ((with_reducible apply lm_sAA); exact rfl; first | exact rfl | exact lm_roO (by omega) | exact lm_roM (by omega))
    | ((with_reducible apply lm_sI); exact lm_fpL (by omega))
    | ((with_reducible apply lm_sR); exact lm_fpB (by omega))
    | ((with_reducible apply lm_sP); exact lm_fpL (by omega); exact rfl)
    | ((with_reducible apply lm_sS); exact lm_ocO (by omega); exact rfl)
    | ((with_reducible apply lm_sA); exact rfl; omega)
    | ((with_reducible apply lm_sJ); exact rfl; omega)
    | ((with_reducible apply lm_sB); (first | exact rfl | exact lm_arB (by omega) | exact lm_arM (by omega)); omega)
    | ((with_reducible apply lm_wA); exact rfl; omega)
    | ((with_reducible apply lm_wJ); exact rfl; omega)
    | ((with_reducible apply lm_wB); (first | exact rfl | exact lm_arB (by omega) | exact lm_arM (by omega)); omega)
    | ((with_reducible apply lm_sAl); (first | exact rfl | exact lm_arB (by omega) | exact lm_arM (by omega)); omega)
    | ((with_reducible apply lm_iW); decide))
      refine lm_cV e3 ?_
      refine lm_e66_35 ?_
      unfold lm_q66_35
      refine lm_iF (show ¬ Int32.ofInt 24 + Int32.ofInt (-8) < 0 by decide) ?_
      repeat (first
    | ((with_reducible apply lm_sI); exact rfl)
    | ((with_reducible apply lm_sR); exact rfl)
    | ((with_reducible apply lm_sS); exact rfl; exact rfl)
    | ((with_reducible apply lm_sL); exact rfl)
    | ((with_reducible apply lm_sP); exact rfl; exact rfl)
    | ((with_reducible apply lm_sPL); exact rfl; exact rfl)
    | ((with_reducible apply lm_sAA); exact rfl; first | exact rfl | exact lm_roO (by omega) | exact lm_roM (by omega))
    | ((with_reducible apply lm_sI); exact lm_fpL (by omega))
    | ((with_reducible apply lm_sR); exact lm_fpB (by omega))
    | ((with_reducible apply lm_sP); exact lm_fpL (by omega); exact rfl)
    | ((with_reducible apply lm_sS); exact lm_ocO (by omega); exact rfl)
    | ((with_reducible apply lm_sA); exact rfl; omega)
    | ((with_reducible apply lm_sJ); exact rfl; omega)
    | ((with_reducible apply lm_sB); (first | exact rfl | exact lm_arB (by omega) | exact lm_arM (by omega)); omega)
    | ((with_reducible apply lm_wA); exact rfl; omega)
    | ((with_reducible apply lm_wJ); exact rfl; omega)
    | ((with_reducible apply lm_wB); (first | exact rfl | exact lm_arB (by omega) | exact lm_arM (by omega)); omega)
    | ((with_reducible apply lm_sAl); (first | exact rfl | exact lm_arB (by omega) | exact lm_arM (by omega)); omega)
    | ((with_reducible apply lm_iW); decide))
      refine lm_cV e4 ?_
      refine lm_e66_35 ?_
      unfold lm_q66_35
      refine lm_iF (show ¬ Int32.ofInt 24 + Int32.ofInt (-8) + Int32.ofInt (-8) < 0 by decide) ?_
      repeat (first
    | ((with_reducible apply lm_sI); exact rfl)
    | ((with_reducible apply lm_sR); exact rfl)
    | ((with_reducible apply lm_sS); exact rfl; exact rfl)
    | ((with_reducible apply lm_sL); exact rfl)
    | ((with_reducible apply lm_sP); exact rfl; exact rfl)
    | ((with_reducible apply lm_sPL); exact rfl; exact rfl)
    | ((with_reducible apply lm_sAA); exact rfl; first | exact rfl | exact lm_roO (by omega) | exact lm_roM (by omega))
    | ((with_reducible apply lm_sI); exact lm_fpL (by omega))
    | ((with_reducible apply lm_sR); exact lm_fpB (by omega))
    | ((with_reducible apply lm_sP); exact lm_fpL (by omega); exact rfl)
    | ((with_reducible apply lm_sS); exact lm_ocO (by omega); exact rfl)
    | ((with_reducible apply lm_sA); exact rfl; omega)
    | ((with_reducible apply lm_sJ); exact rfl; omega)
    | ((with_reducible apply lm_sB); (first | exact rfl | exact lm_arB (by omega) | exact lm_arM (by omega)); omega)
    | ((with_reducible apply lm_wA); exact rfl; omega)
    | ((with_reducible apply lm_wJ); exact rfl; omega)
    | ((with_reducible apply lm_wB); (first | exact rfl | exact lm_arB (by omega) | exact lm_arM (by omega)); omega)
    | ((with_reducible apply lm_sAl); (first | exact rfl | exact lm_arB (by omega) | exact lm_arM (by omega)); omega)
    | ((with_reducible apply lm_iW); decide))
      refine lm_cV e5 ?_
      refine lm_e66_35 ?_
      unfold lm_q66_35
      refine lm_iF (show ¬ Int32.ofInt 24 + Int32.ofInt (-8) + Int32.ofInt (-8) + Int32.ofInt (-8) < 0 by decide) ?_
      repeat (first
    | ((with_reducible apply lm_sI); exact rfl)
    | ((with_reducible apply lm_sR); exact rfl)
    | ((with_reducible apply lm_sS); exact rfl; exact rfl)
    | ((with_reducible apply lm_sL); exact rfl)
    | ((with_reducible apply lm_sP); exact rfl; exact rfl)
    | ((with_reducible apply lm_sPL); exact rfl; exact rfl)
    | ((with_reducible apply lm_sAA); exact rfl; first | exact rfl | exact lm_roO (by omega) | exact lm_roM (by omega))
    | ((with_reducible apply lm_sI); exact lm_fpL (by omega))
    | ((with_reducible apply lm_sR); exact lm_fpB (by omega))
    | ((with_reducible apply lm_sP); exact lm_fpL (by omega); exact rfl)
    | ((with_reducible apply lm_sS); exact lm_ocO (by omega); exact rfl)
    | ((with_reducible apply lm_sA); exact rfl; omega)
    | ((with_reducible apply lm_sJ); exact rfl; omega)
    | ((with_reducible apply lm_sB); (first | exact rfl | exact lm_arB (by omega) | exact lm_arM (by omega)); omega)
    | ((with_reducible apply lm_wA); exact rfl; omega)
    | ((with_reducible apply lm_wJ); exact rfl; omega)
    | ((with_reducible apply lm_wB); (first | exact rfl | exact lm_arB (by omega) | exact lm_arM (by omega)); omega)
    | ((with_reducible apply lm_sAl); (first | exact rfl | exact lm_arB (by omega) | exact lm_arM (by omega)); omega)
    | ((with_reducible apply lm_iW); decide))
      refine lm_cV e6 ?_
      refine lm_e66_35 ?_
      unfold lm_q66_35
      refine lm_iT (show Int32.ofInt 24 + Int32.ofInt (-8) + Int32.ofInt (-8) + Int32.ofInt (-8) + Int32.ofInt (-8) < 0 by decide) ?_
      repeat (first
    | ((with_reducible apply lm_sI); exact rfl)
    | ((with_reducible apply lm_sR); exact rfl)
    | ((with_reducible apply lm_sS); exact rfl; exact rfl)
    | ((with_reducible apply lm_sL); exact rfl)
    | ((with_reducible apply lm_sP); exact rfl; exact rfl)
    | ((with_reducible apply lm_sPL); exact rfl; exact rfl)
    | ((with_reducible apply lm_sAA); exact rfl; first | exact rfl | exact lm_roO (by omega) | exact lm_roM (by omega))
    | ((with_reducible apply lm_sI); exact lm_fpL (by omega))
    | ((with_reducible apply lm_sR); exact lm_fpB (by omega))
    | ((with_reducible apply lm_sP); exact lm_fpL (by omega); exact rfl)
    | ((with_reducible apply lm_sS); exact lm_ocO (by omega); exact rfl)
    | ((with_reducible apply lm_sA); exact rfl; omega)
    | ((with_reducible apply lm_sJ); exact rfl; omega)
    | ((with_reducible apply lm_sB); (first | exact rfl | exact lm_arB (by omega) | exact lm_arM (by omega)); omega)
    | ((with_reducible apply lm_wA); exact rfl; omega)
    | ((with_reducible apply lm_wJ); exact rfl; omega)
    | ((with_reducible apply lm_wB); (first | exact rfl | exact lm_arB (by omega) | exact lm_arM (by omega)); omega)
    | ((with_reducible apply lm_sAl); (first | exact rfl | exact lm_arB (by omega) | exact lm_arM (by omega)); omega)
    | ((with_reducible apply lm_iW); decide))
      rw [lm_K0]
      refine lm_cV e7 ?_
      repeat (first
    | ((with_reducible apply lm_sI); exact rfl)
    | ((with_reducible apply lm_sR); exact rfl)
    | ((with_reducible apply lm_sS); exact rfl; exact rfl)
    | ((with_reducible apply lm_sL); exact rfl)
    | ((with_reducible apply lm_sP); exact rfl; exact rfl)
    | ((with_reducible apply lm_sPL); exact rfl; exact rfl)
    | ((with_reducible apply lm_sAA); exact rfl; first | exact rfl | exact lm_roO (by omega) | exact lm_roM (by omega))
    | ((with_reducible apply lm_sI); exact lm_fpL (by omega))
    | ((with_reducible apply lm_sR); exact lm_fpB (by omega))
    | ((with_reducible apply lm_sP); exact lm_fpL (by omega); exact rfl)
    | ((with_reducible apply lm_sS); exact lm_ocO (by omega); exact rfl)
    | ((with_reducible apply lm_sA); exact rfl; omega)
    | ((with_reducible apply lm_sJ); exact rfl; omega)
    | ((with_reducible apply lm_sB); (first | exact rfl | exact lm_arB (by omega) | exact lm_arM (by omega)); omega)
    | ((with_reducible apply lm_wA); exact rfl; omega)
    | ((with_reducible apply lm_wJ); exact rfl; omega)
    | ((with_reducible apply lm_wB); (first | exact rfl | exact lm_arB (by omega) | exact lm_arM (by omega)); omega)
    | ((with_reducible apply lm_sAl); (first | exact rfl | exact lm_arB (by omega) | exact lm_arM (by omega)); omega)
    | ((with_reducible apply lm_iW); decide))
      rw [lm_om, lm_oo, Nat.zero_add, lm_osu (by omega)]
      by_cases cc : lm_dg b ≤ L - j * lm_dg b
      · refine lm_geT (by omega) (by omega) cc ?_
        rw [Nat.min_eq_left cc] at e
        exact e
      · refine lm_geF (by omega) (by omega) cc ?_
        rw [Nat.min_eq_right (by omega)] at e
        exact e
theorem lm_u66 (h1 : 1 ≤ b) (h2 : b ≤ 6) {q v p w : Nat} (hq : q ≠ 203 ∧ q ≠ 227 ∧ q ≠ 228 ∧ q ≠ 229) (hp : p ≠ 203 ∧ p ≠ 227 ∧ p ≠ 228 ∧ p ≠ 229 ∧ p ≠ 221) (hqp : q ≠ p) (har : lm_ar q = some (1, v)) (hl : l ≤ v) (hv : v ≤ 70000) (hap : lm_ar p = some (1, w)) (hL : L ≤ w) (hw : w ≤ 70000) {h0 : lm_HV} {J : Nat → Int64} {bb : Nat → Int32} (e0 : h0 = (0, Int64.ofNat 0, lm_st0' (n 215) (n 217) (n 218) b J, bb)) (eh : h = lm_hps (lm_tb m n) b (lm_rate b) (fun i => lm_b8 (m q i)) l 0 h0) : ∃ m' n', lm_cal sc (d + 6) 66 [.ref 203, .int (Int32.ofNat b), .ref q, .int (Int32.ofNat l), .ref p, .int (Int32.ofNat 0), .int (Int32.ofNat L)] (lm_w m n x) = some (.ok none, lm_w m' n' x) ∧ (∀ i, i < L → m' p i = lm_b8 (lm_mg (lm_tb m n) b h i)) ∧ lm_fmk p m n m' n' := by
  obtain ⟨m', n', e, K, f⟩ := lm_l66 (sc := sc) (d := d) (x := x) h1 h2 hq hp hqp har hl hv hap hL hw e0 eh L 0 m n (by omega) (by omega) (fun i _ hi => absurd hi (by omega)) ⟨fun _ _ _ _ _ _ => rfl, fun _ _ _ _ => rfl, fun _ _ _ _ _ _ => rfl⟩
  refine ⟨m', n', ?_, K, f⟩
  refine lm_cal_of (Y := lm_m66) rfl rfl (lm_e66_0 ?_)
  unfold lm_q66_0
  refine lm_cI (lm_u60 (d := d + 4) h1 (by omega)) ?_
  exact e
end LMRG
