/-! ===== dsaKeys of the reference: a row's sum ===== -/
def lm_as (A W : Nat → Nat → Int) : Nat → Nat → Int
  | 0 => fun _ => 0
  | t + 1 => fun c => (lm_as A W t c + A t c * W t c).tmod 8380417
theorem lm_as_cg {A W : Nat → Nat → Int} {c : Nat} : ∀ t, ln_cg 8380417 (lm_as A W t c) (ln_sg t (fun t => A t c * W t c)) := by
  intro t
  induction t with
  | zero => exact ln_cg.rf
  | succ t ih => exact ln_cg.tm.tr (ih.ad ln_cg.rf)
theorem lm_as_b {A W : Nat → Nat → Int} : ∀ t, lm_bnd 8380416 (lm_as A W t) := by
  intro t c _
  cases t with
  | zero => show -8380416 ≤ (0 : Int) ∧ (0 : Int) ≤ 8380416; decide
  | succ t =>
    have := lm_tmb (a := lm_as A W t c + A t c * W t c) (show (0 : Int) < 8380417 by decide)
    show -8380416 ≤ (lm_as A W t c + A t c * W t c).tmod 8380417 ∧ (lm_as A W t c + A t c * W t c).tmod 8380417 ≤ 8380416
    omega
/-- what the reference's pieces of Dsa leave alone -/
def ln_fD (m : lm_MI) (n : lm_ML) (m' : lm_MI) (n' : lm_ML) : Prop := (∀ j, j ≠ 4 → j ≠ 18 → j ≠ 19 → j ≠ 20 → j ≠ 24 → m' 203 j = m 203 j) ∧ (∀ q, q ≠ 203 → q ≠ 223 → q ≠ 224 → q ≠ 225 → q ≠ 226 → q ≠ 230 → n' q = n q)
theorem ln_fD.rf {m : lm_MI} {n : lm_ML} : ln_fD m n m n := ⟨fun _ _ _ _ _ _ => rfl, fun _ _ _ _ _ _ _ => rfl⟩
theorem ln_fD.tr {m m1 m2 : lm_MI} {n n1 n2 : lm_ML} (h : ln_fD m n m1 n1) (g : ln_fD m1 n1 m2 n2) : ln_fD m n m2 n2 := ⟨fun j a b c d e => (g.1 j a b c d e).trans (h.1 j a b c d e), fun q a b c d e f => (g.2 q a b c d e f).trans (h.2 q a b c d e f)⟩
theorem lm_fB.D {m m1 : lm_MI} {n n1 : lm_ML} (h : lm_fB m n m1 n1) : ln_fD m n m1 n1 := ⟨fun j _ b c d e => h.1 j b c d e, h.2⟩
theorem ln_fD.u4 {m : lm_MI} {n : lm_ML} {v : Int32} : ln_fD m n (lm_u m 203 4 v) n := ⟨fun j a _ _ _ _ => lm_u_ne (fun g => a g.2), fun _ _ _ _ _ _ _ => rfl⟩
theorem lm_RD.keepD {C : lm_CX} {s : Nat} {m m' : lm_MI} {n n' : lm_ML} (h : lm_RD C s m n) (g : ln_fD m n m' n') (h1 : m' 221 = m 221) (h2 : m' 268 = m 268) : lm_RD C s m' n' := by
  refine ⟨?_, by rw [g.1 32 (by decide) (by decide) (by decide) (by decide) (by decide)]; exact h.2.1, by rw [g.1 42 (by decide) (by decide) (by decide) (by decide) (by decide)]; exact h.2.2.1, by rw [g.1 43 (by decide) (by decide) (by decide) (by decide) (by decide)]; exact h.2.2.2.1, by rw [h2]; exact h.2.2.2.2⟩
  rw [← h.1]
  unfold lm_cx lm_tb
  rw [h1, g.2 215 (by decide) (by decide) (by decide) (by decide) (by decide) (by decide), g.2 217 (by decide) (by decide) (by decide) (by decide) (by decide) (by decide), g.2 218 (by decide) (by decide) (by decide) (by decide) (by decide) (by decide), g.2 222 (by decide) (by decide) (by decide) (by decide) (by decide) (by decide), g.2 216 (by decide) (by decide) (by decide) (by decide) (by decide) (by decide)]
section LMRK
variable {sc : lm_H} {C : lm_CX} {d s : Nat} {m m0 : lm_MI} {n n0 : lm_ML} {x : lm_H × Nat × Nat} {W : Nat → Nat → Int} {x4 : Int32}
def lm_I294 (C : lm_CX) (K : Nat → Int32) (W : Nat → Nat → Int) (i : Nat) (m0 : lm_MI) (n0 : lm_ML) (t : Nat) (m : lm_MI) (n : lm_ML) : Prop := (∀ r, r ≠ 203 → r ≠ 227 → r ≠ 310 → r ≠ 311 → m r = m0 r) ∧ ln_fD m0 n0 m n ∧ m 203 4 = 0 ∧ m 203 24 = m0 203 24 ∧ (∀ t', t' < t → (lm_xA C K 0 i t').1 = 256) ∧ ∀ c, c < 256 → m 310 c = Int32.ofInt (lm_as (fun t c => lm_xAm C K i t c) W t c)
def lm_E294 (C : lm_CX) (K : Nat → Int32) (l i : Nat) (m0 : lm_MI) (n0 : lm_ML) (x : lm_H × Nat × Nat) (R : Except Nat lm_R × lm_S) : Prop := ∃ m n, R = (.ok (some (.int 0)), lm_w m n x) ∧ (∀ r, r ≠ 203 → r ≠ 227 → r ≠ 310 → r ≠ 311 → m r = m0 r) ∧ ln_fD m0 n0 m n ∧ m 203 4 = Int32.ofInt 3 ∧ ∃ t, t < l ∧ (lm_xA C K 0 i t).1 ≠ 256
theorem lm_l28d {i : Nat} (hs : s ≤ 2) (h : lm_RD C s m n) (h4 : m 203 4 = 0) (hi : i < lm_dk s) (hW : ∀ t, t < lm_dl s → ∀ c, c < 256 → m (270 + t) c = Int32.ofInt (W t c) ∧ 0 ≤ W t c ∧ W t c ≤ 8380416) (hS : ∀ c, c < 256 → m 310 c = Int32.ofInt 0) : (∃ m' n', lm_I294 C (m 263) W i m n (lm_dl s) m' n' ∧ ∀ R, lm_rn sc (d + 6) lm_m28.2.2.2.2.1 (lm_reg lm_m28.2.2.2.2.2) (294, [(0, .ref 203), (4, .int x4), (5, .int (Int32.ofNat i)), (6, .int (Int32.ofNat (lm_dl s)))], []) (lm_w m' n' x) = some R → lm_rn sc (d + 6) lm_m28.2.2.2.2.1 (lm_reg lm_m28.2.2.2.2.2) (294, [(0, .ref 203), (4, .int x4), (5, .int (Int32.ofNat i)), (6, .int (Int32.ofNat 0))], []) (lm_w m n x) = some R) ∨ ∃ R, lm_E294 C (m 263) (lm_dl s) i m n x R ∧ lm_rn sc (d + 6) lm_m28.2.2.2.2.1 (lm_reg lm_m28.2.2.2.2.2) (294, [(0, .ref 203), (4, .int x4), (5, .int (Int32.ofNat i)), (6, .int (Int32.ofNat 0))], []) (lm_w m n x) = some R := by
  have hkl := lm_dkl hs
  refine lm_lpe (sc := sc) (d := d + 6) (b := lm_dl s) (hs := lm_m28.2.2.2.2.1) (code := lm_reg lm_m28.2.2.2.2.2) (x := x) (fr := fun t => (294, [(0, .ref 203), (4, .int x4), (5, .int (Int32.ofNat i)), (6, .int (Int32.ofNat t))], [])) (I := fun t m' n' => lm_I294 C (m 263) W i m n t m' n') (E := lm_E294 C (m 263) (lm_dl s) i m n x) (fun t ht m1 n1 ⟨g1, g2, g3, g24, g4, g5⟩ => ?_) (lm_dl s) 0 (by omega) m n ⟨fun _ _ _ _ _ => rfl, .rf, h4, rfl, fun t' ht' => absurd ht' (by omega), hS⟩
  have e263 : m1 263 = m 263 := g1 263 (by decide) (by decide) (by decide) (by decide)
  have h1 : lm_RD C s m1 n1 := h.keepD g2 (g1 221 (by decide) (by decide) (by decide) (by decide)) (g1 268 (by decide) (by decide) (by decide) (by decide))
  have e42 : m1 203 42 = Int32.ofNat (lm_dl s) := h1.2.2.1
  obtain ⟨m2, n2, c2, f2, gG, v2⟩ := lm_u91 (sc := sc) (d := d + 1) (m := m1) (n := n1) (x := x) (p := 311) (q := 263) (v := 256) (a := 0) (w1 := Int32.ofNat t) (w2 := Int32.ofNat i) h1.1 rfl (by decide) rfl (by decide) (by decide) (by decide)
  rw [e263, ← lm_xA_e] at c2 v2
  have u49 := fun b => lm_u49 (sc := sc) (d := d + 5) (m := m2) (n := n2) (x := x) (k := Int32.ofInt 3) b
  have pre : ∀ R, lm_bind (lm_asI (lm_cal sc (d + 6) 91 [.ref 203, .ref 311, .ref 263, .int (Int32.ofNat 0), .int (Int32.ofNat t), .int (Int32.ofNat i)])) (fun v9 => lm_bind (lm_sel [(11, 49)] (some (.ref 203))) fun y10 => lm_bind (lm_asI (lm_cal sc (d + 6) y10 [.ref 203, .int v9, .int (Int32.ofInt 3)])) fun v11 => lm_if .ne v11 0 (lm_bind (lm_gR 4554 203) fun v12 => lm_bind (lm_aaR sc v12 (Int32.ofInt 40)) fun v13 => lm_bind (lm_gR 4554 203) fun v14 => lm_bind (lm_aaR sc v14 (Int32.ofInt 41)) fun v15 => lm_bind (lm_gR 4554 203) fun v16 => lm_bind (lm_aaR sc v16 (Int32.ofNat t)) fun v17 => lm_bind (lm_asV (lm_cal sc (d + 6) 92 [.ref v13, .ref v15, .ref v17])) fun _ => lm_rn sc (d + 6) lm_m28.2.2.2.2.1 (lm_reg lm_m28.2.2.2.2.2) (294, [(0, .ref 203), (4, .int x4), (5, .int (Int32.ofNat i)), (6, .int (Int32.ofNat t + Int32.ofInt 1))], [])) (lm_ret (some (.int (Int32.ofInt 0))))) (lm_w m1 n1 x) = some R → lm_rn sc (d + 6) lm_m28.2.2.2.2.1 (lm_reg lm_m28.2.2.2.2.2) (294, [(0, .ref 203), (4, .int x4), (5, .int (Int32.ofNat i)), (6, .int (Int32.ofNat t))], []) (lm_w m1 n1 x) = some R := by
    intro R K
    clear c2 v2 g4 u49
    refine lm_e28_294 ?_
    unfold lm_q28_294
    repeat (first
    | ((with_reducible apply lm_sI); exact rfl)
    | ((with_reducible apply lm_sR); exact rfl)
    | ((with_reducible apply lm_sS); exact rfl; exact rfl)
    | ((with_reducible apply lm_sL); exact rfl)
    | ((with_reducible apply lm_sP); exact rfl; exact rfl)
    | ((with_reducible apply lm_sPL); exact rfl; exact rfl)
    | ((with_reducible apply lm_sAA); exact rfl; exact rfl)
    | ((with_reducible apply lm_sA); (first | exact rfl | assumption); omega)
    | ((with_reducible apply lm_sJ); (first | exact rfl | assumption); omega)
    | ((with_reducible apply lm_sB); (first | exact rfl | assumption); omega)
    | ((with_reducible apply lm_wA); (first | exact rfl | assumption); omega)
    | ((with_reducible apply lm_wJ); (first | exact rfl | assumption); omega)
    | ((with_reducible apply lm_wB); (first | exact rfl | assumption); omega)
    | ((with_reducible apply lm_sAl); (first | exact rfl | assumption); omega)
    | ((with_reducible apply lm_iW); decide))
    simp only [Nat.reduceDiv, Nat.reduceMod]
    rw [e42]
    refine lm_geF (by omega) (by omega) (by omega) ?_
    rw [show Int32.ofInt 41 = Int32.ofNat 41 from rfl, lm_K0]
    repeat (first
    | ((with_reducible apply lm_sI); exact rfl)
    | ((with_reducible apply lm_sR); exact rfl)
    | ((with_reducible apply lm_sS); exact rfl; exact rfl)
    | ((with_reducible apply lm_sL); exact rfl)
    | ((with_reducible apply lm_sP); exact rfl; exact rfl)
    | ((with_reducible apply lm_sPL); exact rfl; exact rfl)
    | ((with_reducible apply lm_sAA); exact rfl; exact rfl)
    | ((with_reducible apply lm_sA); (first | exact rfl | assumption); omega)
    | ((with_reducible apply lm_sJ); (first | exact rfl | assumption); omega)
    | ((with_reducible apply lm_sB); (first | exact rfl | assumption); omega)
    | ((with_reducible apply lm_wA); (first | exact rfl | assumption); omega)
    | ((with_reducible apply lm_wJ); (first | exact rfl | assumption); omega)
    | ((with_reducible apply lm_wB); (first | exact rfl | assumption); omega)
    | ((with_reducible apply lm_sAl); (first | exact rfl | assumption); omega)
    | ((with_reducible apply lm_iW); decide))
    rw [show Int32.ofInt 41 = Int32.ofNat 41 from rfl, lm_K0] at K
    exact K
  by_cases c : (lm_xA C (m 263) 0 i t).1 = 256
  · rw [decide_eq_true c] at c2
    have u := u49 true
    generalize eM : lm_u m2 203 4 (cond true 0 (Int32.ofInt 3)) = M at u
    have rM : ∀ r, r ≠ 203 → M r = m2 r := fun r hr => by rw [← eM, lm_u_row hr]
    have gM : ln_fD m n M n2 := g2.tr (gG.B.D.tr (by rw [← eM]; exact .u4))
    have v3 : ∀ cc, cc < 256 → M 311 cc = Int32.ofInt (lm_xAm C (m 263) i t cc) := fun cc hcc => by
      rw [rM 311 (by decide), v2 cc (by rw [c]; exact hcc), lm_oN, lm_xAm_e]
    have ba : lm_bnd 8380416 (fun cc => lm_xAm C (m 263) i t cc) := fun cc hcc => by
      have := lm_xA_lt c hcc
      show -8380416 ≤ lm_xAm C (m 263) i t cc ∧ lm_xAm C (m 263) i t cc ≤ 8380416
      rw [lm_xAm_e]
      omega
    obtain ⟨m3, c3, p3⟩ := lm_u92 (sc := sc) (d := d + 5) (m0 := M) (m := M) (n := n2) (x := x) (p := 310) (f := 311) (g := 270 + t) (S := lm_as (fun t c => lm_xAm C (m 263) i t c) W t) (F := fun cc => lm_xAm C (m 263) i t cc) (H := W t) rfl rfl (lm_arY t (by omega)) (by decide) (by omega) ⟨fun _ _ => rfl, fun cc hcc => by rw [rM 310 (by decide), f2 310 (by decide) (by decide) (by decide)]; exact g5 cc hcc⟩ v3 (fun cc hcc => by rw [rM _ (by omega), f2 _ (by omega) (by omega) (by omega), g1 _ (by omega) (by omega) (by omega) (by omega)]; exact (hW t ht cc hcc).1) (lm_as_b t) ba (fun cc hcc => by have := hW t ht cc hcc; omega)
    refine Or.inl ⟨m3, n2, ⟨fun r q1 q2 q3 q4 => by rw [p3.1 r q3, rM r q1, f2 r q1 q2 q4, g1 r q1 q2 q3 q4], ?_, ?_, ?_, fun t' ht' => ?_, p3.2⟩, fun R K => pre R (lm_cI c2 ?_)⟩
    · exact gM.tr (lm_fB.of (p3.1 203 (by decide))).D
    · rw [p3.1 203 (by decide), ← eM, lm_u_eq]
      rfl
    · rw [p3.1 203 (by decide), ← eM, lm_u_ne (by decide), gG.1 24 (by decide) (by decide) (by decide), g24]
    · by_cases c0 : t' = t
      · subst c0; exact c
      · exact g4 t' (by omega)
    · clear v2 g4 c ba
      repeat (first
    | ((with_reducible apply lm_sI); exact rfl)
    | ((with_reducible apply lm_sR); exact rfl)
    | ((with_reducible apply lm_sS); exact rfl; exact rfl)
    | ((with_reducible apply lm_sL); exact rfl)
    | ((with_reducible apply lm_sP); exact rfl; exact rfl)
    | ((with_reducible apply lm_sPL); exact rfl; exact rfl)
    | ((with_reducible apply lm_sAA); exact rfl; exact rfl)
    | ((with_reducible apply lm_sA); (first | exact rfl | assumption); omega)
    | ((with_reducible apply lm_sJ); (first | exact rfl | assumption); omega)
    | ((with_reducible apply lm_sB); (first | exact rfl | assumption); omega)
    | ((with_reducible apply lm_wA); (first | exact rfl | assumption); omega)
    | ((with_reducible apply lm_wJ); (first | exact rfl | assumption); omega)
    | ((with_reducible apply lm_wB); (first | exact rfl | assumption); omega)
    | ((with_reducible apply lm_sAl); (first | exact rfl | assumption); omega)
    | ((with_reducible apply lm_iW); decide))
      refine lm_cI u ?_
      refine lm_iT (show ¬ (1 : Int32) = 0 by decide) ?_
      rw [show Int32.ofInt 41 = Int32.ofNat 41 from rfl, show Int32.ofInt 40 = Int32.ofNat 40 from rfl]
      repeat (first
    | ((with_reducible apply lm_sI); exact rfl)
    | ((with_reducible apply lm_sR); exact rfl)
    | ((with_reducible apply lm_sS); exact rfl; exact rfl)
    | ((with_reducible apply lm_sL); exact rfl)
    | ((with_reducible apply lm_sP); exact rfl; exact rfl)
    | ((with_reducible apply lm_sPL); exact rfl; exact rfl)
    | ((with_reducible apply lm_sAA); exact rfl; exact rfl)
    | ((with_reducible apply lm_sA); (first | exact rfl | assumption); omega)
    | ((with_reducible apply lm_sJ); (first | exact rfl | assumption); omega)
    | ((with_reducible apply lm_sB); (first | exact rfl | assumption); omega)
    | ((with_reducible apply lm_wA); (first | exact rfl | assumption); omega)
    | ((with_reducible apply lm_wJ); (first | exact rfl | assumption); omega)
    | ((with_reducible apply lm_wB); (first | exact rfl | assumption); omega)
    | ((with_reducible apply lm_sAl); (first | exact rfl | assumption); omega)
    | ((with_reducible apply lm_iW); decide))
      refine lm_sAA rfl (lm_roY t (by omega)) ?_
      refine lm_cV c3 ?_
      rw [lm_K1, lm_oo]
      exact K
  · rw [decide_eq_false c] at c2
    refine Or.inr ⟨_, ⟨lm_u m2 203 4 (Int32.ofInt 3), n2, rfl, fun r q1 q2 q3 q4 => by rw [lm_u_row q1, f2 r q1 q2 q4, g1 r q1 q2 q3 q4], g2.tr (gG.B.D.tr .u4), lm_u_eq, t, ht, c⟩, pre _ (lm_cI c2 ?_)⟩
    repeat (first
    | ((with_reducible apply lm_sI); exact rfl)
    | ((with_reducible apply lm_sR); exact rfl)
    | ((with_reducible apply lm_sS); exact rfl; exact rfl)
    | ((with_reducible apply lm_sL); exact rfl)
    | ((with_reducible apply lm_sP); exact rfl; exact rfl)
    | ((with_reducible apply lm_sPL); exact rfl; exact rfl)
    | ((with_reducible apply lm_sAA); exact rfl; exact rfl)
    | ((with_reducible apply lm_sA); (first | exact rfl | assumption); omega)
    | ((with_reducible apply lm_sJ); (first | exact rfl | assumption); omega)
    | ((with_reducible apply lm_sB); (first | exact rfl | assumption); omega)
    | ((with_reducible apply lm_wA); (first | exact rfl | assumption); omega)
    | ((with_reducible apply lm_wJ); (first | exact rfl | assumption); omega)
    | ((with_reducible apply lm_wB); (first | exact rfl | assumption); omega)
    | ((with_reducible apply lm_sAl); (first | exact rfl | assumption); omega)
    | ((with_reducible apply lm_iW); decide))
    refine lm_cI (u49 false) ?_
    refine lm_iF (show ¬ ¬ (0 : Int32) = 0 by decide) ?_
    rfl
end LMRK
