/-! ===== kemWrap: one call of both ===== -/
theorem lm_pkB_ext {F F' : Nat → Nat → Int} {d j : Nat} (hd : 0 < d) (h : ∀ c, c < 256 → F (j / (32 * d)) c = F' (j / (32 * d)) c) : lm_pkB F d j = lm_pkB F' d j := by
  unfold lm_pkB
  refine lm_bv_ext fun u hu => ?_
  have h2 := Nat.mod_lt j (show 0 < 32 * d by omega)
  generalize j % (32 * d) = r at *
  have h3 : (8 * r + u) / d < 256 := Nat.div_lt_of_lt_mul (by omega)
  unfold lm_ts
  dsimp only
  rw [h _ h3]
theorem lm_apc_ext {S : Nat → Int} {F F' H : Nat → Nat → Int} {k : Nat} (h : ∀ j c, j < k → c < 256 → F j c = F' j c) : ∀ j, j ≤ k → ∀ c, c < 256 → lm_apc S F H j c = lm_apc S F' H j c := by
  intro j
  induction j with
  | zero => intro _ c _; rfl
  | succ j ih =>
    intro hj c hc
    show lm_ap (lm_apc S F H j) (F j) (H j) c = lm_ap (lm_apc S F' H j) (F' j) (H j) c
    unfold lm_ap
    rw [ih (by omega) c hc, h j c (by omega) hc]
    by_cases e : c % 2 = 0
    · rw [if_pos e, if_pos e, h j (c + 1) (by omega) (by omega)]
    · rw [if_neg e, if_neg e, h j (c - 1) (by omega) (by omega)]
theorem lm_un_ext {F G : Nat → Int} (h : ∀ c, c < 256 → F c = G c) (j : Nat) : lm_un F j = lm_un G j := by
  unfold lm_un
  rw [lm_sg_ext fun t ht => by rw [h (t * 2 + j % 2) (by omega)]]
theorem lm_ct_ext {C : lm_CX} {P : Nat → Int32} {e k du dv : Nat} {A A' : Nat → Nat → Nat → Int} {T T' : Nat → Nat → Int} {b b' : Nat → Nat} {j : Nat} (hdv : 0 < dv) (hA : A = A') (hT : ∀ j c, j < k → c < 256 → T j c = T' j c) (hb : ∀ c, c < 256 → b c = b' c) : lm_ct C P e k du dv A T b j = lm_ct C P e k du dv A' T' b' j := by
  subst hA
  unfold lm_ct
  by_cases c : j < 32 * du * k
  · rw [if_pos c, if_pos c]
  · rw [if_neg c, if_neg c]
    refine lm_pkB_ext hdv fun c hc => ?_
    unfold lm_eV lm_eZ
    rw [hb c hc, lm_un_ext (F := lm_eW C P e k T) (G := lm_eW C P e k T') (fun c hc => lm_apc_ext hT k (Nat.le_refl k) c hc) c]
theorem lm_bx_ext {t t' : Nat → Int32} (h : ∀ i, i < 32 → lm_b8 (t i) = lm_b8 (t' i)) {c : Nat} (hc : c < 256) : lm_bx t c = lm_bx t' c := by
  unfold lm_bx ln_bt
  dsimp only
  rw [lm_b8_ne (h (c / 8) (by omega))]
section LMSX
variable {sc : lm_H} {xs : List Int32} {C : lm_CX} {d s l : Nat} {m m1 m2 : lm_MI} {n n1 n2 : lm_ML} {x : lm_H × Nat × Nat} {v : Int32}
theorem lm_kAi_ext {K K' : Nat → Int32} {a a' : Nat} (h : ∀ i, i < 32 → lm_b8 (K (a + i)) = lm_b8 (K' (a' + i))) : (fun i j => lm_kAi C K a i j) = fun i j => lm_kAi C K' a' i j := by
  funext i j c
  unfold lm_kAi
  rw [lm_kA_ext h]
theorem lm_kAll_ext {K K' : Nat → Int32} {a a' k : Nat} (h : ∀ i, i < 32 → lm_b8 (K (a + i)) = lm_b8 (K' (a' + i))) : lm_kAll C K a k ↔ lm_kAll C K' a' k := by
  unfold lm_kAll
  simp only [lm_kA_ext h]
theorem lm_wct_ext {K K' R R' P : Nat → Int32} {a a' s j : Nat} (hs : s ≤ 2) (h : ∀ i, i < 384 * (s + 2) + 32 → lm_b8 (K (a + i)) = lm_b8 (K' (a' + i))) (hR : ∀ i, i < 32 → lm_b8 (R i) = lm_b8 (R' i)) : lm_wct C K R P a s j = lm_wct C K' R' P a' s j := by
  unfold lm_wct
  refine lm_ct_ext (lm_kusz hs).2.1.1 (lm_kAi_ext fun i hi => ?_) (fun j c hj hc => lm_T12_ext hc fun t ht => ?_) (fun c hc => lm_bx_ext hR hc)
  · rw [Nat.add_assoc, Nat.add_assoc]
    exact h _ (by omega)
  · rw [Nat.add_assoc, Nat.add_assoc]
    exact h _ (by omega)
theorem lm_kH_ext {K K' : Nat → Int32} {a a' k : Nat} (h : ∀ i, i < 384 * k + 32 → lm_b8 (K (a + i)) = lm_b8 (K' (a' + i))) : lm_kH C K a k = lm_kH C K' a' k := by
  funext i
  unfold lm_kH
  exact lm_Hm_ext h
theorem lm_kQ_ext {R R' H : Nat → Int32} (h : ∀ i, i < 32 → lm_b8 (R i) = lm_b8 (R' i)) : lm_kQ C R H = lm_kQ C R' H := by
  funext i
  unfold lm_kQ
  refine lm_Hm_ext fun t _ => ?_
  unfold lm_gw
  by_cases c : t < 32
  · rw [if_pos c, if_pos c, h t c]
  · rw [if_neg c, if_neg c]
theorem lm_kfit_ext {K K' : Nat → Int32} {k : Nat} (h : ∀ i, i < 384 * k → lm_b8 (K i) = lm_b8 (K' i)) : lm_kfit K k ↔ lm_kfit K' k := by
  have e : ∀ i c, i < k → c < 256 → lm_T12 K 0 i c = lm_T12 K' 0 i c := fun i c hi hc => lm_T12_ext hc fun t ht => h _ (by omega)
  constructor
  · intro g i c hi hc
    rw [← e i c hi hc]
    exact g i c hi hc
  · intro g i c hi hc
    rw [e i c hi hc]
    exact g i c hi hc
/-- kemWrap of the reference, RANDOM of 32 bytes -/
theorem lm_u24c (hC : lm_cx m n = C) (hs : s ≤ 2) (h32 : m 214 0 = Int32.ofNat 32) (hl : m 214 1 = Int32.ofNat l) (hl2 : l ≤ 65536) : ((l = 384 * (s + 2) + 32 ∧ lm_kfit (m 207) (s + 2)) ∧ ((∃ m' n', lm_cal sc (d + 8) 24 [.ref 203, .int (Int32.ofNat s)] (lm_w m n x) = some (.ok (some (.int (Int32.ofNat (lm_kps s)))), lm_w m' n' x) ∧ lm_kAll C (m 207) (0 + 384 * (s + 2)) (s + 2) ∧ (∀ r, r ≠ 203 → r ≠ 211 → r ≠ 212 → r ≠ 214 → r ≠ 227 → (r < 231 ∨ 266 < r) → m' r = m r) ∧ (∀ j, j ≠ 4 → j ≠ 18 → j ≠ 19 → j ≠ 20 → j ≠ 24 → (j < 32 ∨ 35 < j) → m' 203 j = m 203 j) ∧ (∀ q, q ≠ 203 → q ≠ 223 → q ≠ 224 → q ≠ 225 → q ≠ 226 → q ≠ 230 → n' q = n q) ∧ m' 203 4 = 0 ∧ (∀ j, j ≠ 5 → j ≠ 6 → m' 214 j = m 214 j) ∧ m' 214 5 = Int32.ofNat (lm_kps s) ∧ m' 214 6 = Int32.ofNat 32 ∧ (∀ j, j < lm_kps s → lm_yb (m' 211 j) = lm_wct C (m 207) (m 206) (lm_kQ C (m 206) (lm_kH C (m 207) 0 (s + 2))) 0 s j) ∧ ∀ j, j < 32 → lm_b8 (m' 212 j) = lm_b8 (lm_kQ C (m 206) (lm_kH C (m 207) 0 (s + 2)) j)) ∨ ∃ m' n', lm_cal sc (d + 8) 24 [.ref 203, .int (Int32.ofNat s)] (lm_w m n x) = some (.ok (some (.int 0)), lm_w m' n' x) ∧ ¬ lm_kAll C (m 207) (0 + 384 * (s + 2)) (s + 2) ∧ (∀ r, r ≠ 203 → r ≠ 227 → (r < 231 ∨ 266 < r) → m' r = m r) ∧ (∀ j, j ≠ 4 → j ≠ 18 → j ≠ 19 → j ≠ 20 → j ≠ 24 → (j < 32 ∨ 35 < j) → m' 203 j = m 203 j) ∧ (∀ q, q ≠ 203 → q ≠ 223 → q ≠ 224 → q ≠ 225 → q ≠ 226 → q ≠ 230 → n' q = n q) ∧ m' 203 4 = Int32.ofInt 4)) ∨ (¬ (l = 384 * (s + 2) + 32 ∧ lm_kfit (m 207) (s + 2)) ∧ ∃ m', lm_cal sc (d + 8) 24 [.ref 203, .int (Int32.ofNat s)] (lm_w m n x) = some (.ok (some (.int 0)), lm_w m' n x) ∧ (∀ r, r ≠ 203 → r ≠ 231 → m' r = m r) ∧ (∀ j, j ≠ 4 → j ≠ 24 → (j < 32 ∨ 35 < j) → m' 203 j = m 203 j) ∧ m' 203 4 = Int32.ofInt 3) := by
  obtain ⟨m1, c1, a1, a2, a3⟩ := ln_u68 (sc := sc) (d := d + 6) (m := lm_u m 203 4 0) (n := n) (x := x) (s := s) (by omega)
  have r1 : ∀ r, r ≠ 203 → r ≠ 231 → m1 r = m r := fun r q1 q2 => by rw [a1 r q1 q2, lm_u_row q1]
  have k1 : m1 203 32 = Int32.ofNat (s + 2) := by rw [a3.1, Nat.add_comm]
  have f1 : ∀ j, j ≠ 4 → (j < 32 ∨ 35 < j) → m1 203 j = m 203 j := fun j j1 j2 => by rw [a2 j j2, lm_u_ne (fun g => j1 g.2)]
  generalize eM : lm_u m1 203 24 (Int32.ofNat 0) = M
  have rM : ∀ r, r ≠ 203 → M r = m1 r := fun r hr => by rw [← eM, lm_u_row hr]
  have fM : ∀ j, j ≠ 24 → M 203 j = m1 203 j := fun j hj => by rw [← eM, lm_u_ne (fun g => hj g.2)]
  have e214 : m1 214 = m 214 := r1 214 (by decide) (by decide)
  have start : ∀ b R, (b = true ↔ l = 384 * (s + 2) + 32) → lm_rn sc (d + 7) lm_m24.2.2.2.2.1 (lm_reg lm_m24.2.2.2.2.2) (78, [(0, .ref 203), (2, .int (lm_z b)), (3, .int (Int32.ofNat 0))], []) (lm_w M n x) = some R → lm_cal sc (d + 8) 24 [.ref 203, .int (Int32.ofNat s)] (lm_w m n x) = some R := by
    intro b R hb K
    have K70 : lm_rn sc (d + 7) lm_m24.2.2.2.2.1 (lm_reg lm_m24.2.2.2.2.2) (70, [(0, .ref 203)], [.int (lm_z b)]) (lm_w m1 n x) = some R := by
      refine lm_e24_70 ?_
      unfold lm_q24_70
      rw [lm_K0]
      repeat (first
    | ((with_reducible apply lm_sI); exact rfl)
    | ((with_reducible apply lm_sR); exact rfl)
    | ((with_reducible apply lm_sS); exact rfl; exact rfl)
    | ((with_reducible apply lm_sL); exact rfl)
    | ((with_reducible apply lm_sP); exact rfl; exact rfl)
    | ((with_reducible apply lm_sPL); exact rfl; exact rfl)
    | ((with_reducible apply lm_sAA); exact rfl; first | exact rfl | exact lm_roO (by omega) | exact lm_roM (by omega))
    | ((with_reducible apply lm_sI); exact lm_fpL (by omega))
    | ((with_reducible apply lm_sR); exact lm_fpB (by omega))
    | ((with_reducible apply lm_sP); exact lm_fpL (by omega); exact rfl)
    | ((with_reducible apply lm_sS); exact lm_ocO (by omega); exact rfl)
    | ((with_reducible apply lm_sA); exact rfl; omega)
    | ((with_reducible apply lm_sJ); exact rfl; omega)
    | ((with_reducible apply lm_sB); (first | exact rfl | exact lm_arB (by omega) | exact lm_arM (by omega)); omega)
    | ((with_reducible apply lm_wA); exact rfl; omega)
    | ((with_reducible apply lm_wJ); exact rfl; omega)
    | ((with_reducible apply lm_wB); (first | exact rfl | exact lm_arB (by omega) | exact lm_arM (by omega)); omega)
    | ((with_reducible apply lm_sAl); (first | exact rfl | exact lm_arB (by omega) | exact lm_arM (by omega)); omega)
    | ((with_reducible apply lm_iW); decide))
      rw [eM]
      exact K
    refine lm_cal_of (Y := lm_m24) rfl rfl (lm_e24_0 ?_)
    unfold lm_q24_0
    refine lm_cI (lm_t52n (i := s) (d := d + 6) (n := 2) hs (by omega)) ?_
    repeat (first
    | ((with_reducible apply lm_sI); exact rfl)
    | ((with_reducible apply lm_sR); exact rfl)
    | ((with_reducible apply lm_sS); exact rfl; exact rfl)
    | ((with_reducible apply lm_sL); exact rfl)
    | ((with_reducible apply lm_sP); exact rfl; exact rfl)
    | ((with_reducible apply lm_sPL); exact rfl; exact rfl)
    | ((with_reducible apply lm_sAA); exact rfl; first | exact rfl | exact lm_roO (by omega) | exact lm_roM (by omega))
    | ((with_reducible apply lm_sI); exact lm_fpL (by omega))
    | ((with_reducible apply lm_sR); exact lm_fpB (by omega))
    | ((with_reducible apply lm_sP); exact lm_fpL (by omega); exact rfl)
    | ((with_reducible apply lm_sS); exact lm_ocO (by omega); exact rfl)
    | ((with_reducible apply lm_sA); exact rfl; omega)
    | ((with_reducible apply lm_sJ); exact rfl; omega)
    | ((with_reducible apply lm_sB); (first | exact rfl | exact lm_arB (by omega) | exact lm_arM (by omega)); omega)
    | ((with_reducible apply lm_wA); exact rfl; omega)
    | ((with_reducible apply lm_wJ); exact rfl; omega)
    | ((with_reducible apply lm_wB); (first | exact rfl | exact lm_arB (by omega) | exact lm_arM (by omega)); omega)
    | ((with_reducible apply lm_sAl); (first | exact rfl | exact lm_arB (by omega) | exact lm_arM (by omega)); omega)
    | ((with_reducible apply lm_iW); decide))
    refine lm_cI (lm_u49 (d := d + 6) true) ?_
    refine lm_iF (show ¬ (1 : Int32) = 0 by decide) ?_
    rw [lm_K0, lm_K32]
    repeat (first
    | ((with_reducible apply lm_sI); exact rfl)
    | ((with_reducible apply lm_sR); exact rfl)
    | ((with_reducible apply lm_sS); exact rfl; exact rfl)
    | ((with_reducible apply lm_sL); exact rfl)
    | ((with_reducible apply lm_sP); exact rfl; exact rfl)
    | ((with_reducible apply lm_sPL); exact rfl; exact rfl)
    | ((with_reducible apply lm_sAA); exact rfl; first | exact rfl | exact lm_roO (by omega) | exact lm_roM (by omega))
    | ((with_reducible apply lm_sI); exact lm_fpL (by omega))
    | ((with_reducible apply lm_sR); exact lm_fpB (by omega))
    | ((with_reducible apply lm_sP); exact lm_fpL (by omega); exact rfl)
    | ((with_reducible apply lm_sS); exact lm_ocO (by omega); exact rfl)
    | ((with_reducible apply lm_sA); exact rfl; omega)
    | ((with_reducible apply lm_sJ); exact rfl; omega)
    | ((with_reducible apply lm_sB); (first | exact rfl | exact lm_arB (by omega) | exact lm_arM (by omega)); omega)
    | ((with_reducible apply lm_wA); exact rfl; omega)
    | ((with_reducible apply lm_wJ); exact rfl; omega)
    | ((with_reducible apply lm_wB); (first | exact rfl | exact lm_arB (by omega) | exact lm_arM (by omega)); omega)
    | ((with_reducible apply lm_sAl); (first | exact rfl | exact lm_arB (by omega) | exact lm_arM (by omega)); omega)
    | ((with_reducible apply lm_iW); decide))
    rw [show lm_u m 203 4 (cond true 0 (Int32.ofInt 1)) 214 0 = Int32.ofNat 32 by rw [lm_u_row (by decide), h32]]
    refine lm_neF (by omega) (by omega) (by decide) ?_
    refine lm_e24_31 ?_
    unfold lm_q24_31
    repeat (first
    | ((with_reducible apply lm_sI); exact rfl)
    | ((with_reducible apply lm_sR); exact rfl)
    | ((with_reducible apply lm_sS); exact rfl; exact rfl)
    | ((with_reducible apply lm_sL); exact rfl)
    | ((with_reducible apply lm_sP); exact rfl; exact rfl)
    | ((with_reducible apply lm_sPL); exact rfl; exact rfl)
    | ((with_reducible apply lm_sAA); exact rfl; first | exact rfl | exact lm_roO (by omega) | exact lm_roM (by omega))
    | ((with_reducible apply lm_sI); exact lm_fpL (by omega))
    | ((with_reducible apply lm_sR); exact lm_fpB (by omega))
    | ((with_reducible apply lm_sP); exact lm_fpL (by omega); exact rfl)
    | ((with_reducible apply lm_sS); exact lm_ocO (by omega); exact rfl)
    | ((with_reducible apply lm_sA); exact rfl; omega)
    | ((with_reducible apply lm_sJ); exact rfl; omega)
    | ((with_reducible apply lm_sB); (first | exact rfl | exact lm_arB (by omega) | exact lm_arM (by omega)); omega)
    | ((with_reducible apply lm_wA); exact rfl; omega)
    | ((with_reducible apply lm_wJ); exact rfl; omega)
    | ((with_reducible apply lm_wB); (first | exact rfl | exact lm_arB (by omega) | exact lm_arM (by omega)); omega)
    | ((with_reducible apply lm_sAl); (first | exact rfl | exact lm_arB (by omega) | exact lm_arM (by omega)); omega)
    | ((with_reducible apply lm_iW); decide))
    refine lm_cI (lm_u49 (d := d + 6) true) ?_
    refine lm_iT (show ¬ (1 : Int32) = 0 by decide) ?_
    rw [lm_uu]
    repeat (first
    | ((with_reducible apply lm_sI); exact rfl)
    | ((with_reducible apply lm_sR); exact rfl)
    | ((with_reducible apply lm_sS); exact rfl; exact rfl)
    | ((with_reducible apply lm_sL); exact rfl)
    | ((with_reducible apply lm_sP); exact rfl; exact rfl)
    | ((with_reducible apply lm_sPL); exact rfl; exact rfl)
    | ((with_reducible apply lm_sAA); exact rfl; first | exact rfl | exact lm_roO (by omega) | exact lm_roM (by omega))
    | ((with_reducible apply lm_sI); exact lm_fpL (by omega))
    | ((with_reducible apply lm_sR); exact lm_fpB (by omega))
    | ((with_reducible apply lm_sP); exact lm_fpL (by omega); exact rfl)
    | ((with_reducible apply lm_sS); exact lm_ocO (by omega); exact rfl)
    | ((with_reducible apply lm_sA); exact rfl; omega)
    | ((with_reducible apply lm_sJ); exact rfl; omega)
    | ((with_reducible apply lm_sB); (first | exact rfl | exact lm_arB (by omega) | exact lm_arM (by omega)); omega)
    | ((with_reducible apply lm_wA); exact rfl; omega)
    | ((with_reducible apply lm_wJ); exact rfl; omega)
    | ((with_reducible apply lm_wB); (first | exact rfl | exact lm_arB (by omega) | exact lm_arM (by omega)); omega)
    | ((with_reducible apply lm_sAl); (first | exact rfl | exact lm_arB (by omega) | exact lm_arM (by omega)); omega)
    | ((with_reducible apply lm_iW); decide))
    refine lm_cV c1 ?_
    rw [lm_K1, lm_K384, lm_K32]
    repeat (first
    | ((with_reducible apply lm_sI); exact rfl)
    | ((with_reducible apply lm_sR); exact rfl)
    | ((with_reducible apply lm_sS); exact rfl; exact rfl)
    | ((with_reducible apply lm_sL); exact rfl)
    | ((with_reducible apply lm_sP); exact rfl; exact rfl)
    | ((with_reducible apply lm_sPL); exact rfl; exact rfl)
    | ((with_reducible apply lm_sAA); exact rfl; first | exact rfl | exact lm_roO (by omega) | exact lm_roM (by omega))
    | ((with_reducible apply lm_sI); exact lm_fpL (by omega))
    | ((with_reducible apply lm_sR); exact lm_fpB (by omega))
    | ((with_reducible apply lm_sP); exact lm_fpL (by omega); exact rfl)
    | ((with_reducible apply lm_sS); exact lm_ocO (by omega); exact rfl)
    | ((with_reducible apply lm_sA); exact rfl; omega)
    | ((with_reducible apply lm_sJ); exact rfl; omega)
    | ((with_reducible apply lm_sB); (first | exact rfl | exact lm_arB (by omega) | exact lm_arM (by omega)); omega)
    | ((with_reducible apply lm_wA); exact rfl; omega)
    | ((with_reducible apply lm_wJ); exact rfl; omega)
    | ((with_reducible apply lm_wB); (first | exact rfl | exact lm_arB (by omega) | exact lm_arM (by omega)); omega)
    | ((with_reducible apply lm_sAl); (first | exact rfl | exact lm_arB (by omega) | exact lm_arM (by omega)); omega)
    | ((with_reducible apply lm_iW); decide))
    simp only [Nat.reduceDiv, Nat.reduceMod]
    rw [e214, hl, k1, lm_om, lm_oo]
    cases b with
    | true =>
      refine lm_neF (by omega) (by omega) (fun g => g (hb.mp rfl)) ?_
      exact K70
    | false =>
      refine lm_neT (by omega) (by omega) (fun g => absurd (hb.mpr g) (by decide)) ?_
      rw [lm_K0]
      exact K70
  by_cases cl : l = 384 * (s + 2) + 32
  · subst cl
    have hM : lm_RK0 C (s + 2) (lm_ke s) M n := by
      refine ⟨?_, by rw [fM 32 (by decide)]; exact k1, by rw [fM 33 (by decide), a3.2.1]; rfl, by rw [rM 231 (by decide)]; exact a3.2.2.2.2⟩
      rw [← hC]
      unfold lm_cx lm_tb
      rw [rM 221 (by decide), r1 221 (by decide) (by decide)]
    obtain ⟨m2, b1, b2, b3⟩ := lm_l24a (sc := sc) (d := d + 4) (n := n) (x := x) (m := M) (k := s + 2) hM.2.1 (by omega) (by rw [← eM, lm_u_eq])
    rw [rM 207 (by decide), r1 207 (by decide) (by decide)] at b3
    have r2 : ∀ r, r ≠ 203 → r ≠ 231 → m2 r = m r := fun r q1 q2 => by rw [b1 r q1, rM r q1, r1 r q1 q2]
    have f2 : ∀ j, j ≠ 4 → j ≠ 24 → (j < 32 ∨ 35 < j) → m2 203 j = m 203 j := fun j j1 j2 j3 => by rw [b2 j j2, fM j j2, f1 j j1 j3]
    have B2 : lm_fB M n m2 n := .p b2
    have h2 := hM.keepB B2 (b1 221 (by decide)) (b1 231 (by decide))
    rcases b3 with ⟨hok, K2⟩ | ⟨hno, K2⟩
    · refine Or.inl ⟨⟨rfl, hok⟩, ?_⟩
      rcases lm_l24b (sc := sc) (d := d) (x := x) (m := m2) (n := n) (C := C) (s := s) hs h2 (by rw [b2 34 (by decide), fM 34 (by decide), a3.2.2.1]; rfl) (by rw [b2 35 (by decide), fM 35 (by decide), a3.2.2.2.1]; rfl) (by rw [r2 214 (by decide) (by decide)]; exact hl) with ⟨m3, n3, c3, d1, d2, d3, d4, d5, d6, d7, d8, d9, d10⟩ | ⟨m3, n3, c3, d1, d2, d3, d4, d5⟩
      · rw [r2 207 (by decide) (by decide)] at d1 d9 d10
        rw [r2 206 (by decide) (by decide)] at d9 d10
        refine Or.inl ⟨m3, n3, start true _ (by simp) (K2 _ c3), d1, fun r q1 q2 q3 q4 q5 q6 => by rw [d2 r q1 q2 q3 q4 q5 q6, r2 r q1 (by omega)], fun j j1 j2 j3 j4 j5 j6 => by rw [d3 j j1 j2 j3 j4 j5, f2 j j1 j5 j6], d4, d5, fun j j1 j2 => by rw [d6 j j1 j2, r2 214 (by decide) (by decide)], d7, d8, d9, d10⟩
      · rw [r2 207 (by decide) (by decide)] at d1
        exact Or.inr ⟨m3, n3, start true _ (by simp) (K2 _ c3), d1, fun r q1 q2 q3 => by rw [d2 r q1 q2 q3, r2 r q1 (by omega)], fun j j1 j2 j3 j4 j5 j6 => by rw [d3 j j1 j2 j3 j4 j5, f2 j j1 j5 j6], d4, d5⟩
    · refine Or.inr ⟨fun g => hno g.2, lm_u m2 203 4 (Int32.ofInt 3), start true _ (by simp) (K2 _ (lm_e24_121 ?_)), fun r q1 q2 => by rw [lm_u_row q1, r2 r q1 q2], fun j j1 j2 j3 => by rw [lm_u_ne (fun g => j1 g.2), f2 j j1 j2 j3], lm_u_eq⟩
      unfold lm_q24_121
      repeat (first
    | ((with_reducible apply lm_sI); exact rfl)
    | ((with_reducible apply lm_sR); exact rfl)
    | ((with_reducible apply lm_sS); exact rfl; exact rfl)
    | ((with_reducible apply lm_sL); exact rfl)
    | ((with_reducible apply lm_sP); exact rfl; exact rfl)
    | ((with_reducible apply lm_sPL); exact rfl; exact rfl)
    | ((with_reducible apply lm_sAA); exact rfl; first | exact rfl | exact lm_roO (by omega) | exact lm_roM (by omega))
    | ((with_reducible apply lm_sI); exact lm_fpL (by omega))
    | ((with_reducible apply lm_sR); exact lm_fpB (by omega))
    | ((with_reducible apply lm_sP); exact lm_fpL (by omega); exact rfl)
    | ((with_reducible apply lm_sS); exact lm_ocO (by omega); exact rfl)
    | ((with_reducible apply lm_sA); exact rfl; omega)
    | ((with_reducible apply lm_sJ); exact rfl; omega)
    | ((with_reducible apply lm_sB); (first | exact rfl | exact lm_arB (by omega) | exact lm_arM (by omega)); omega)
    | ((with_reducible apply lm_wA); exact rfl; omega)
    | ((with_reducible apply lm_wJ); exact rfl; omega)
    | ((with_reducible apply lm_wB); (first | exact rfl | exact lm_arB (by omega) | exact lm_arM (by omega)); omega)
    | ((with_reducible apply lm_sAl); (first | exact rfl | exact lm_arB (by omega) | exact lm_arM (by omega)); omega)
    | ((with_reducible apply lm_iW); decide))
      refine lm_cI (lm_u49 (d := d + 6) false) ?_
      refine lm_iF (show ¬ ¬ (0 : Int32) = 0 by decide) ?_
      rfl
  · refine Or.inr ⟨fun g => cl g.1, lm_u M 203 4 (Int32.ofInt 3), start false _ (by simp [cl]) (lm_e24_78 ?_), fun r q1 q2 => by rw [lm_u_row q1, rM r q1, r1 r q1 q2], fun j j1 j2 j3 => by rw [lm_u_ne (fun g => j1 g.2), fM j j2, f1 j j1 j3], lm_u_eq⟩
    unfold lm_q24_78
    repeat (first
    | ((with_reducible apply lm_sI); exact rfl)
    | ((with_reducible apply lm_sR); exact rfl)
    | ((with_reducible apply lm_sS); exact rfl; exact rfl)
    | ((with_reducible apply lm_sL); exact rfl)
    | ((with_reducible apply lm_sP); exact rfl; exact rfl)
    | ((with_reducible apply lm_sPL); exact rfl; exact rfl)
    | ((with_reducible apply lm_sAA); exact rfl; first | exact rfl | exact lm_roO (by omega) | exact lm_roM (by omega))
    | ((with_reducible apply lm_sI); exact lm_fpL (by omega))
    | ((with_reducible apply lm_sR); exact lm_fpB (by omega))
    | ((with_reducible apply lm_sP); exact lm_fpL (by omega); exact rfl)
    | ((with_reducible apply lm_sS); exact lm_ocO (by omega); exact rfl)
    | ((with_reducible apply lm_sA); exact rfl; omega)
    | ((with_reducible apply lm_sJ); exact rfl; omega)
    | ((with_reducible apply lm_sB); (first | exact rfl | exact lm_arB (by omega) | exact lm_arM (by omega)); omega)
    | ((with_reducible apply lm_wA); exact rfl; omega)
    | ((with_reducible apply lm_wJ); exact rfl; omega)
    | ((with_reducible apply lm_wB); (first | exact rfl | exact lm_arB (by omega) | exact lm_arM (by omega)); omega)
    | ((with_reducible apply lm_sAl); (first | exact rfl | exact lm_arB (by omega) | exact lm_arM (by omega)); omega)
    | ((with_reducible apply lm_iW); decide))
    simp only [Nat.reduceDiv, Nat.reduceMod]
    rw [fM 32 (by decide), k1, lm_K256, lm_om]
    refine lm_geF (by omega) (by omega) (by omega) (lm_iT (show (0 : Int32) = 0 by decide) (lm_e24_121 ?_))
    unfold lm_q24_121
    repeat (first
    | ((with_reducible apply lm_sI); exact rfl)
    | ((with_reducible apply lm_sR); exact rfl)
    | ((with_reducible apply lm_sS); exact rfl; exact rfl)
    | ((with_reducible apply lm_sL); exact rfl)
    | ((with_reducible apply lm_sP); exact rfl; exact rfl)
    | ((with_reducible apply lm_sPL); exact rfl; exact rfl)
    | ((with_reducible apply lm_sAA); exact rfl; first | exact rfl | exact lm_roO (by omega) | exact lm_roM (by omega))
    | ((with_reducible apply lm_sI); exact lm_fpL (by omega))
    | ((with_reducible apply lm_sR); exact lm_fpB (by omega))
    | ((with_reducible apply lm_sP); exact lm_fpL (by omega); exact rfl)
    | ((with_reducible apply lm_sS); exact lm_ocO (by omega); exact rfl)
    | ((with_reducible apply lm_sA); exact rfl; omega)
    | ((with_reducible apply lm_sJ); exact rfl; omega)
    | ((with_reducible apply lm_sB); (first | exact rfl | exact lm_arB (by omega) | exact lm_arM (by omega)); omega)
    | ((with_reducible apply lm_wA); exact rfl; omega)
    | ((with_reducible apply lm_wJ); exact rfl; omega)
    | ((with_reducible apply lm_wB); (first | exact rfl | exact lm_arB (by omega) | exact lm_arM (by omega)); omega)
    | ((with_reducible apply lm_sAl); (first | exact rfl | exact lm_arB (by omega) | exact lm_arM (by omega)); omega)
    | ((with_reducible apply lm_iW); decide))
    refine lm_cI (lm_u49 (d := d + 6) false) ?_
    refine lm_iF (show ¬ ¬ (0 : Int32) = 0 by decide) ?_
    rfl
end LMSX
