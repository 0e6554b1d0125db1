/-! ===== slhKeys of the class ===== -/
def lm_T0 : Int32 := Int64.toInt32 (lm_uL (Int64.ofNat 0) (Int32.ofInt 32))
def lm_clp (n : Nat) (f : Nat → Int32) (t : Nat) : Int32 := if t < n then f t else 0
theorem lm_clp_t {n t : Nat} {f : Nat → Int32} (h : t < n) : lm_clp n f t = f t := if_pos h
theorem lm_clp_x {n : Nat} {f g : Nat → Int32} (h : ∀ t, t < n → f t = g t) : lm_clp n f = lm_clp n g := by
  funext t
  unfold lm_clp
  by_cases c : t < n
  · rw [if_pos c, if_pos c, h t c]
  · rw [if_neg c, if_neg c]
def lm_kW (C : lm_CX) (s : Nat) (R : Nat → Int32) : lm_WT := (C, s, lm_clp (lm_sn s) (fun t => lm_b8 (R (2 * lm_sn s + t))), lm_clp (lm_sn s) (fun t => lm_b8 (R t)), Int32.ofNat (lm_sd s - 1), lm_T0, Int64.toInt32 (Int64.ofNat 0))
def lm_ksec (C : lm_CX) (s : Nat) (R : Nat → Int32) (t : Nat) : Int32 := if t < 3 * lm_sn s then lm_b8 (R t) else lm_hnd (lm_kW C s R) false (Int32.ofNat 0) (lm_sh s) 0 (t - 3 * lm_sn s)
theorem lm_kW_x {C : lm_CX} {s : Nat} {R R' : Nat → Int32} (h : ∀ t, t < 3 * lm_sn s → lm_b8 (R t) = lm_b8 (R' t)) : lm_kW C s R = lm_kW C s R' := by
  unfold lm_kW
  rw [lm_clp_x (g := fun t => lm_b8 (R' (2 * lm_sn s + t))) (fun t ht => h _ (by omega)), lm_clp_x (g := fun t => lm_b8 (R' t)) (fun t ht => h _ (by omega))]
theorem lm_ksec_x {C : lm_CX} {s t : Nat} {R R' : Nat → Int32} (h : ∀ t, t < 3 * lm_sn s → lm_b8 (R t) = lm_b8 (R' t)) : lm_ksec C s R t = lm_ksec C s R' t := by
  unfold lm_ksec
  rw [lm_kW_x h]
  by_cases c : t < 3 * lm_sn s
  · rw [if_pos c, if_pos c, h t c]
  · rw [if_neg c, if_neg c]
section LMTA
variable {xs : List Int32} {sc : lm_H} {C : lm_CX} {d s l : Nat} {m m' : lm_MI} {n n' : lm_ML} {x : lm_H × Nat × Nat}
theorem lm_A0z {sk : Bool} {F : Nat → Int32} (h : ∀ t, t < 32 → lm_b8 (F t) = 0) : lm_A0 sk F := fun _ t ht => h t (by omega)
theorem lm_sh2p (hs : s ≤ 11) : 2 ^ lm_sh s ≤ 512 := Nat.pow_le_pow_right (n := 2) (by decide) (lm_spar s hs).2.2.2.2.1
theorem lm_u177 (hC : lm_Cok xs C) (hs : s ≤ 11) (hF : lm_SF m s) (hr : ln_rt m) (hz : ∀ t, t < 32 → lm_b8 (m 195 t) = 0) : ∃ m' n', lm_cal (lm_sc xs) (d + 8) 177 [.ref 194, .ref 27, .ref 28, .ref 30] (lm_w m n x) = some (.ok none, lm_w m' n' x) ∧ (∀ r, (r < 5 ∨ 22 < r) → (r < 28 ∨ 31 < r) → (r < 195 ∨ 202 < r) → m' r = m r) ∧ lm_fN m n m' n' ∧ m' 28 1 = Int32.ofNat (2 * lm_sn s) ∧ m' 30 1 = Int32.ofNat (4 * lm_sn s) ∧ (∀ t, t < 2 * lm_sn s → lm_b8 (m' 29 t) = lm_ksec C s (m 27) (2 * lm_sn s + t)) ∧ ∀ t, t < 4 * lm_sn s → lm_b8 (m' 31 t) = lm_ksec C s (m 27) t := by
  have hpar := lm_spar s hs
  have hp2 := lm_sh2p hs
  generalize eM1 : lm_cp m 31 0 27 0 (3 * lm_sn s) = M1
  have r1 : ∀ r, r ≠ 31 → M1 r = m r := fun r hr => by rw [← eM1, lm_cp_row hr]
  have v1 : ∀ t, t < 3 * lm_sn s → M1 31 t = m 27 t := fun t ht => by rw [← eM1, lm_rc, if_pos (by omega)]; rfl
  have SF1 : lm_SF M1 s := by unfold lm_SF; rw [r1 194 (by decide)]; exact hF
  obtain ⟨m2, n2, c2, S2, f2, g2, w2⟩ := lm_u192 (d := d) (x := x) (m := M1) (n := n) (q := 31) (v := 65536) (P := lm_clp (lm_sn s) (fun t => lm_b8 (m 27 (2 * lm_sn s + t)))) hC hs SF1 ⟨by rw [r1 11 (by decide)]; exact hr.1, by rw [r1 17 (by decide)]; exact hr.2⟩ rfl (by decide) (by decide) (by decide) (by omega) (by decide) (fun t ht => by rw [v1 _ (by omega), lm_clp_t ht, lm_b8b8])
  have e2 : m2 195 = m 195 := by rw [f2 195 (by decide) (by decide) (by decide), r1 195 (by decide)]
  obtain ⟨m3, c3, f3, a3⟩ := lm_u193 (sc := lm_sc xs) (d := d + 5) (n := n2) (x := x) (s := s) (L := Int32.ofNat (lm_sd s - 1)) (T := Int64.ofNat 0) S2.1.1 (lm_A0z (by rw [e2]; exact hz))
  have X3 : lm_SX (lm_kW C s (m 27)) m3 n2 := ⟨S2.keep (f3 194 (by decide)) (fun r _ _ => f3 r (by omega)) (fun _ _ _ => rfl), a3, fun t ht => by
    have ht' : t < lm_sn s := ht
    rw [f3 196 (by decide), w2 t ht, v1 t (by omega)]
    exact (lm_clp_t (f := fun t => lm_b8 (m 27 t)) ht').symm⟩
  obtain ⟨m4, n4, c4, f4, g4, S4, o4, w4⟩ := lm_u194 (d := d) (x := x) (fo := false) (u := Int32.ofNat 0) (z := lm_sh s) (i := 0) (p := 31) (w := 65536) (b := 3 * lm_sn s) (W := lm_kW C s (m 27)) hC hs X3 (by omega) (by omega) rfl (by decide) (by decide) (by decide) (by decide) (by decide) (show 3 * lm_sn s + lm_sn s ≤ 65536 by omega) (by decide)
  have k31 : ∀ t, t < 4 * lm_sn s → lm_b8 (m4 31 t) = lm_ksec C s (m 27) t := fun t ht => by
    unfold lm_ksec
    by_cases c : t < 3 * lm_sn s
    · rw [if_pos c, o4 t (Or.inl c), f3 31 (by decide), f2 31 (by decide) (by decide) (by decide), v1 t c]
    · rw [if_neg c, ← w4 (t - 3 * lm_sn s) (show t - 3 * lm_sn s < lm_sn s by omega)]
      congr 2
      omega
  have fN4 : lm_fN m n m4 n4 := lm_fN.tr ⟨g2.1, by rw [g2.2.1, r1 11 (by decide)], by rw [g2.2.2, r1 17 (by decide)]⟩ (lm_fN.tr (lm_fN.of (f3 11 (by decide)) (f3 17 (by decide))) g4)
  have fr : ∀ r, (r < 5 ∨ 22 < r) → r ≠ 31 → (r < 195 ∨ 202 < r) → m4 r = m r := fun r q1 q2 q3 => by rw [f4 r q1 (by omega) (by omega) (by omega) q2, f3 r (by omega), f2 r q1 (by omega) (by omega), r1 r q2]
  generalize eM5 : lm_u m4 30 1 (Int32.ofNat (4 * lm_sn s)) = M5
  have r5 : ∀ r, r ≠ 30 → M5 r = m4 r := fun r hr => by rw [← eM5, lm_u_row hr]
  generalize eM6 : lm_cp M5 29 0 31 (2 * lm_sn s) (2 * lm_sn s) = M6
  have r6 : ∀ r, r ≠ 29 → M6 r = M5 r := fun r hr => by rw [← eM6, lm_cp_row hr]
  refine ⟨lm_u M6 28 1 (Int32.ofNat (2 * lm_sn s)), n4, ?_, fun r q1 q2 q3 => by rw [lm_u_row (by omega), r6 r (by omega), r5 r (by omega), fr r q1 (by omega) q3], ?_, lm_u_eq, ?_, fun t ht => ?_, fun t ht => ?_⟩
  · have e4 : ∀ M' : lm_MI, M' 194 = m 194 → M' 194 4 = Int32.ofNat (lm_sn s) := fun M' e => by rw [e]; exact hF.2.1
    have d2 : m2 194 = m 194 := by rw [f2 194 (by decide) (by decide) (by decide), r1 194 (by decide)]
    have d3 : m3 194 = m 194 := by rw [f3 194 (by decide), d2]
    have d4 : m4 194 = m 194 := fr 194 (by decide) (by decide) (by decide)
    have d5 : M5 194 = m 194 := by rw [r5 194 (by decide), d4]
    have d6 : M6 194 = m 194 := by rw [r6 194 (by decide), d5]
    clear k31 w4 w2 v1 o4 X3 S4
    refine lm_cal_of (Y := lm_m177) rfl rfl (lm_e177_0 ?_)
    unfold lm_q177_0
    rw [lm_K0, lm_K1, lm_K2, lm_K3, show Int32.ofInt 4 = Int32.ofNat 4 from rfl]
    repeat (first
    | ((with_reducible apply lm_sI); exact rfl)
    | ((with_reducible apply lm_sR); exact rfl)
    | ((with_reducible apply lm_sS); exact rfl; exact rfl)
    | ((with_reducible apply lm_sL); exact rfl)
    | ((with_reducible apply lm_sP); exact rfl; exact rfl)
    | ((with_reducible apply lm_sPL); exact rfl; exact rfl)
    | ((with_reducible apply lm_sAA); exact rfl; exact rfl)
    | ((with_reducible apply lm_sA); (first | exact rfl | assumption); omega)
    | ((with_reducible apply lm_sJ); (first | exact rfl | assumption); omega)
    | ((with_reducible apply lm_sB); (first | exact rfl | assumption); omega)
    | ((with_reducible apply lm_wA); (first | exact rfl | assumption); omega)
    | ((with_reducible apply lm_wJ); (first | exact rfl | assumption); omega)
    | ((with_reducible apply lm_wB); (first | exact rfl | assumption); omega)
    | ((with_reducible apply lm_sAl); (first | exact rfl | assumption); omega)
    | ((with_reducible apply lm_iW); decide))
    simp only [Nat.reduceDiv, Nat.reduceMod]
    rw [hF.2.1, lm_om]
    refine lm_sCp (u := 1) rfl rfl (Or.inr rfl) (by omega) (by omega) ?_
    rw [eM1]
    repeat (first
    | ((with_reducible apply lm_sI); exact rfl)
    | ((with_reducible apply lm_sR); exact rfl)
    | ((with_reducible apply lm_sS); exact rfl; exact rfl)
    | ((with_reducible apply lm_sL); exact rfl)
    | ((with_reducible apply lm_sP); exact rfl; exact rfl)
    | ((with_reducible apply lm_sPL); exact rfl; exact rfl)
    | ((with_reducible apply lm_sAA); exact rfl; exact rfl)
    | ((with_reducible apply lm_sA); (first | exact rfl | assumption); omega)
    | ((with_reducible apply lm_sJ); (first | exact rfl | assumption); omega)
    | ((with_reducible apply lm_sB); (first | exact rfl | assumption); omega)
    | ((with_reducible apply lm_wA); (first | exact rfl | assumption); omega)
    | ((with_reducible apply lm_wJ); (first | exact rfl | assumption); omega)
    | ((with_reducible apply lm_wB); (first | exact rfl | assumption); omega)
    | ((with_reducible apply lm_sAl); (first | exact rfl | assumption); omega)
    | ((with_reducible apply lm_iW); decide))
    refine lm_cV c2 ?_
    repeat (first
    | ((with_reducible apply lm_sI); exact rfl)
    | ((with_reducible apply lm_sR); exact rfl)
    | ((with_reducible apply lm_sS); exact rfl; exact rfl)
    | ((with_reducible apply lm_sL); exact rfl)
    | ((with_reducible apply lm_sP); exact rfl; exact rfl)
    | ((with_reducible apply lm_sPL); exact rfl; exact rfl)
    | ((with_reducible apply lm_sAA); exact rfl; exact rfl)
    | ((with_reducible apply lm_sA); (first | exact rfl | assumption); omega)
    | ((with_reducible apply lm_sJ); (first | exact rfl | assumption); omega)
    | ((with_reducible apply lm_sB); (first | exact rfl | assumption); omega)
    | ((with_reducible apply lm_wA); (first | exact rfl | assumption); omega)
    | ((with_reducible apply lm_wJ); (first | exact rfl | assumption); omega)
    | ((with_reducible apply lm_wB); (first | exact rfl | assumption); omega)
    | ((with_reducible apply lm_sAl); (first | exact rfl | assumption); omega)
    | ((with_reducible apply lm_iW); decide))
    simp only [Nat.reduceDiv, Nat.reduceMod]
    rw [d2, hF.2.2.1, lm_osu (by omega)]
    refine lm_cV c3 ?_
    repeat (first
    | ((with_reducible apply lm_sI); exact rfl)
    | ((with_reducible apply lm_sR); exact rfl)
    | ((with_reducible apply lm_sS); exact rfl; exact rfl)
    | ((with_reducible apply lm_sL); exact rfl)
    | ((with_reducible apply lm_sP); exact rfl; exact rfl)
    | ((with_reducible apply lm_sPL); exact rfl; exact rfl)
    | ((with_reducible apply lm_sAA); exact rfl; exact rfl)
    | ((with_reducible apply lm_sA); (first | exact rfl | assumption); omega)
    | ((with_reducible apply lm_sJ); (first | exact rfl | assumption); omega)
    | ((with_reducible apply lm_sB); (first | exact rfl | assumption); omega)
    | ((with_reducible apply lm_wA); (first | exact rfl | assumption); omega)
    | ((with_reducible apply lm_wJ); (first | exact rfl | assumption); omega)
    | ((with_reducible apply lm_wB); (first | exact rfl | assumption); omega)
    | ((with_reducible apply lm_sAl); (first | exact rfl | assumption); omega)
    | ((with_reducible apply lm_iW); decide))
    simp only [Nat.reduceDiv, Nat.reduceMod]
    rw [e4 m3 d3, d3, hF.2.2.2.1, lm_om]
    refine lm_cV c4 ?_
    repeat (first
    | ((with_reducible apply lm_sI); exact rfl)
    | ((with_reducible apply lm_sR); exact rfl)
    | ((with_reducible apply lm_sS); exact rfl; exact rfl)
    | ((with_reducible apply lm_sL); exact rfl)
    | ((with_reducible apply lm_sP); exact rfl; exact rfl)
    | ((with_reducible apply lm_sPL); exact rfl; exact rfl)
    | ((with_reducible apply lm_sAA); exact rfl; exact rfl)
    | ((with_reducible apply lm_sA); (first | exact rfl | assumption); omega)
    | ((with_reducible apply lm_sJ); (first | exact rfl | assumption); omega)
    | ((with_reducible apply lm_sB); (first | exact rfl | assumption); omega)
    | ((with_reducible apply lm_wA); (first | exact rfl | assumption); omega)
    | ((with_reducible apply lm_wJ); (first | exact rfl | assumption); omega)
    | ((with_reducible apply lm_wB); (first | exact rfl | assumption); omega)
    | ((with_reducible apply lm_sAl); (first | exact rfl | assumption); omega)
    | ((with_reducible apply lm_iW); decide))
    simp only [Nat.reduceDiv, Nat.reduceMod]
    rw [e4 m4 d4, lm_om, eM5, e4 M5 d5, lm_om]
    refine lm_sCp (u := 1) rfl rfl (Or.inr rfl) (by omega) (by omega) ?_
    rw [eM6]
    repeat (first
    | ((with_reducible apply lm_sI); exact rfl)
    | ((with_reducible apply lm_sR); exact rfl)
    | ((with_reducible apply lm_sS); exact rfl; exact rfl)
    | ((with_reducible apply lm_sL); exact rfl)
    | ((with_reducible apply lm_sP); exact rfl; exact rfl)
    | ((with_reducible apply lm_sPL); exact rfl; exact rfl)
    | ((with_reducible apply lm_sAA); exact rfl; exact rfl)
    | ((with_reducible apply lm_sA); (first | exact rfl | assumption); omega)
    | ((with_reducible apply lm_sJ); (first | exact rfl | assumption); omega)
    | ((with_reducible apply lm_sB); (first | exact rfl | assumption); omega)
    | ((with_reducible apply lm_wA); (first | exact rfl | assumption); omega)
    | ((with_reducible apply lm_wJ); (first | exact rfl | assumption); omega)
    | ((with_reducible apply lm_wB); (first | exact rfl | assumption); omega)
    | ((with_reducible apply lm_sAl); (first | exact rfl | assumption); omega)
    | ((with_reducible apply lm_iW); decide))
    simp only [Nat.reduceDiv, Nat.reduceMod]
    rw [e4 M6 d6, lm_om]
    exact rfl
  · refine fN4.tr (lm_fN.of ?_ ?_)
    · rw [lm_u_row (by decide), r6 11 (by decide), r5 11 (by decide)]
    · rw [lm_u_row (by decide), r6 17 (by decide), r5 17 (by decide)]
  · rw [lm_u_row (by decide), r6 30 (by decide), ← eM5, lm_u_eq]
  · rw [lm_u_row (by decide), ← eM6, lm_rc, if_pos (by omega), r5 31 (by decide), Nat.sub_zero, Nat.add_comm t, k31 _ (by omega)]
  · rw [lm_u_row (by decide), r6 31 (by decide), r5 31 (by decide), k31 t ht]
/-- slhKeys of the class -/
theorem lm_u106c (hC : lm_Cok xs C) (hs : s ≤ 11) (hr : ln_rt m) (hl : m 26 1 = Int32.ofNat (3 * lm_sn s)) : ∃ m' n', lm_cal (lm_sc xs) (d + 9) 106 [.ref 0, .int (Int32.ofNat s)] (lm_w m n x) = some (.ok (some (.int (Int32.ofNat (4 * lm_sn s)))), lm_w m' n' x) ∧ (∀ r, (r < 5 ∨ 22 < r) → (r < 28 ∨ 31 < r) → (r < 194 ∨ 202 < r) → m' r = m r) ∧ lm_fN m n m' n' ∧ m' 28 1 = Int32.ofNat (2 * lm_sn s) ∧ m' 30 1 = Int32.ofNat (4 * lm_sn s) ∧ (∀ t, t < 2 * lm_sn s → lm_b8 (m' 29 t) = lm_ksec C s (m 27) (2 * lm_sn s + t)) ∧ ∀ t, t < 4 * lm_sn s → lm_b8 (m' 31 t) = lm_ksec C s (m 27) t := by
  have hpar := lm_spar s hs
  obtain ⟨m1, c1, F1, z1, f1⟩ := lm_u176c (xs := xs) (d := d + 6) (m := m) (n := n) (x := x) hs
  obtain ⟨m2, n2, c2, f2, g2, l2, l3, b2, b3⟩ := lm_u177 (d := d) (x := x) (n := n) hC hs F1 ⟨by rw [f1 11 (by decide) (by decide)]; exact hr.1, by rw [f1 17 (by decide) (by decide)]; exact hr.2⟩ z1
  rw [f1 27 (by decide) (by decide)] at b2 b3
  refine ⟨m2, n2, ?_, fun r q1 q2 q3 => by rw [f2 r q1 q2 (by omega), f1 r (by omega) (by omega)], lm_fN.tr (lm_fN.of (f1 11 (by decide) (by decide)) (f1 17 (by decide) (by decide))) g2, l2, l3, b2, b3⟩
  clear b2 b3
  refine lm_cal_of (Y := lm_m106) rfl rfl (lm_e106_0 ?_)
  unfold lm_q106_0
  refine lm_cV (lm_t132n (i := s) (d := d + 7) (n := 11) hs (by omega)) ?_
  repeat (first
    | ((with_reducible apply lm_sI); exact rfl)
    | ((with_reducible apply lm_sR); exact rfl)
    | ((with_reducible apply lm_sS); exact rfl; exact rfl)
    | ((with_reducible apply lm_sL); exact rfl)
    | ((with_reducible apply lm_sP); exact rfl; exact rfl)
    | ((with_reducible apply lm_sPL); exact rfl; exact rfl)
    | ((with_reducible apply lm_sAA); exact rfl; first | exact rfl | exact lm_roO (by omega) | exact lm_roM (by omega))
    | ((with_reducible apply lm_sI); exact lm_fpL (by omega))
    | ((with_reducible apply lm_sR); exact lm_fpB (by omega))
    | ((with_reducible apply lm_sP); exact lm_fpL (by omega); exact rfl)
    | ((with_reducible apply lm_sS); exact lm_ocO (by omega); exact rfl)
    | ((with_reducible apply lm_sA); exact rfl; omega)
    | ((with_reducible apply lm_sJ); exact rfl; omega)
    | ((with_reducible apply lm_sB); (first | exact rfl | exact lm_arB (by omega) | exact lm_arM (by omega)); omega)
    | ((with_reducible apply lm_wA); exact rfl; omega)
    | ((with_reducible apply lm_wJ); exact rfl; omega)
    | ((with_reducible apply lm_wB); (first | exact rfl | exact lm_arB (by omega) | exact lm_arM (by omega)); omega)
    | ((with_reducible apply lm_sAl); (first | exact rfl | exact lm_arB (by omega) | exact lm_arM (by omega)); omega)
    | ((with_reducible apply lm_iW); decide))
  refine lm_cV c1 ?_
  rw [lm_K0, lm_K3]
  repeat (first
    | ((with_reducible apply lm_sI); exact rfl)
    | ((with_reducible apply lm_sR); exact rfl)
    | ((with_reducible apply lm_sS); exact rfl; exact rfl)
    | ((with_reducible apply lm_sL); exact rfl)
    | ((with_reducible apply lm_sP); exact rfl; exact rfl)
    | ((with_reducible apply lm_sPL); exact rfl; exact rfl)
    | ((with_reducible apply lm_sAA); exact rfl; first | exact rfl | exact lm_roO (by omega) | exact lm_roM (by omega))
    | ((with_reducible apply lm_sI); exact lm_fpL (by omega))
    | ((with_reducible apply lm_sR); exact lm_fpB (by omega))
    | ((with_reducible apply lm_sP); exact lm_fpL (by omega); exact rfl)
    | ((with_reducible apply lm_sS); exact lm_ocO (by omega); exact rfl)
    | ((with_reducible apply lm_sA); exact rfl; omega)
    | ((with_reducible apply lm_sJ); exact rfl; omega)
    | ((with_reducible apply lm_sB); (first | exact rfl | exact lm_arB (by omega) | exact lm_arM (by omega)); omega)
    | ((with_reducible apply lm_wA); exact rfl; omega)
    | ((with_reducible apply lm_wJ); exact rfl; omega)
    | ((with_reducible apply lm_wB); (first | exact rfl | exact lm_arB (by omega) | exact lm_arM (by omega)); omega)
    | ((with_reducible apply lm_sAl); (first | exact rfl | exact lm_arB (by omega) | exact lm_arM (by omega)); omega)
    | ((with_reducible apply lm_iW); decide))
  simp only [Nat.reduceDiv, Nat.reduceMod]
  rw [f1 26 (by decide) (by decide), hl, F1.2.1, lm_om]
  refine lm_neF (by omega) (by omega) (by omega) ?_
  refine lm_e106_41 ?_
  unfold lm_q106_41
  refine lm_cV (lm_u150 (d := d + 7)) ?_
  rw [lm_K0, lm_K1, lm_K2]
  repeat (first
    | ((with_reducible apply lm_sI); exact rfl)
    | ((with_reducible apply lm_sR); exact rfl)
    | ((with_reducible apply lm_sS); exact rfl; exact rfl)
    | ((with_reducible apply lm_sL); exact rfl)
    | ((with_reducible apply lm_sP); exact rfl; exact rfl)
    | ((with_reducible apply lm_sPL); exact rfl; exact rfl)
    | ((with_reducible apply lm_sAA); exact rfl; first | exact rfl | exact lm_roO (by omega) | exact lm_roM (by omega))
    | ((with_reducible apply lm_sI); exact lm_fpL (by omega))
    | ((with_reducible apply lm_sR); exact lm_fpB (by omega))
    | ((with_reducible apply lm_sP); exact lm_fpL (by omega); exact rfl)
    | ((with_reducible apply lm_sS); exact lm_ocO (by omega); exact rfl)
    | ((with_reducible apply lm_sA); exact rfl; omega)
    | ((with_reducible apply lm_sJ); exact rfl; omega)
    | ((with_reducible apply lm_sB); (first | exact rfl | exact lm_arB (by omega) | exact lm_arM (by omega)); omega)
    | ((with_reducible apply lm_wA); exact rfl; omega)
    | ((with_reducible apply lm_wJ); exact rfl; omega)
    | ((with_reducible apply lm_wB); (first | exact rfl | exact lm_arB (by omega) | exact lm_arM (by omega)); omega)
    | ((with_reducible apply lm_sAl); (first | exact rfl | exact lm_arB (by omega) | exact lm_arM (by omega)); omega)
    | ((with_reducible apply lm_iW); decide))
  refine lm_cV c2 ?_
  repeat (first
    | ((with_reducible apply lm_sI); exact rfl)
    | ((with_reducible apply lm_sR); exact rfl)
    | ((with_reducible apply lm_sS); exact rfl; exact rfl)
    | ((with_reducible apply lm_sL); exact rfl)
    | ((with_reducible apply lm_sP); exact rfl; exact rfl)
    | ((with_reducible apply lm_sPL); exact rfl; exact rfl)
    | ((with_reducible apply lm_sAA); exact rfl; first | exact rfl | exact lm_roO (by omega) | exact lm_roM (by omega))
    | ((with_reducible apply lm_sI); exact lm_fpL (by omega))
    | ((with_reducible apply lm_sR); exact lm_fpB (by omega))
    | ((with_reducible apply lm_sP); exact lm_fpL (by omega); exact rfl)
    | ((with_reducible apply lm_sS); exact lm_ocO (by omega); exact rfl)
    | ((with_reducible apply lm_sA); exact rfl; omega)
    | ((with_reducible apply lm_sJ); exact rfl; omega)
    | ((with_reducible apply lm_sB); (first | exact rfl | exact lm_arB (by omega) | exact lm_arM (by omega)); omega)
    | ((with_reducible apply lm_wA); exact rfl; omega)
    | ((with_reducible apply lm_wJ); exact rfl; omega)
    | ((with_reducible apply lm_wB); (first | exact rfl | exact lm_arB (by omega) | exact lm_arM (by omega)); omega)
    | ((with_reducible apply lm_sAl); (first | exact rfl | exact lm_arB (by omega) | exact lm_arM (by omega)); omega)
    | ((with_reducible apply lm_iW); decide))
  simp only [Nat.reduceDiv, Nat.reduceMod]
  rw [l3]
  exact rfl
theorem lm_u106d (hs : s ≤ 11) (hl : m 26 1 = Int32.ofNat l) (hl2 : l ≤ 65536) (hne : l ≠ 3 * lm_sn s) (hr : lm_rom x) : ∃ m', lm_cal (lm_sc xs) (d + 9) 106 [.ref 0, .int (Int32.ofNat s)] (lm_w m n x) = some (.error (lm_xp x), lm_w m' n (lm_xx 14 x)) ∧ ∀ r, r ≠ 194 → r ≠ 195 → m' r = m r := by
  have hpar := lm_spar s hs
  obtain ⟨m1, c1, F1, z1, f1⟩ := lm_u176c (xs := xs) (d := d + 6) (m := m) (n := n) (x := x) hs
  refine ⟨m1, ?_, f1⟩
  refine lm_cal_of (Y := lm_m106) rfl rfl (lm_e106_0 ?_)
  unfold lm_q106_0
  refine lm_cV (lm_t132n (i := s) (d := d + 7) (n := 11) hs (by omega)) ?_
  repeat (first
    | ((with_reducible apply lm_sI); exact rfl)
    | ((with_reducible apply lm_sR); exact rfl)
    | ((with_reducible apply lm_sS); exact rfl; exact rfl)
    | ((with_reducible apply lm_sL); exact rfl)
    | ((with_reducible apply lm_sP); exact rfl; exact rfl)
    | ((with_reducible apply lm_sPL); exact rfl; exact rfl)
    | ((with_reducible apply lm_sAA); exact rfl; first | exact rfl | exact lm_roO (by omega) | exact lm_roM (by omega))
    | ((with_reducible apply lm_sI); exact lm_fpL (by omega))
    | ((with_reducible apply lm_sR); exact lm_fpB (by omega))
    | ((with_reducible apply lm_sP); exact lm_fpL (by omega); exact rfl)
    | ((with_reducible apply lm_sS); exact lm_ocO (by omega); exact rfl)
    | ((with_reducible apply lm_sA); exact rfl; omega)
    | ((with_reducible apply lm_sJ); exact rfl; omega)
    | ((with_reducible apply lm_sB); (first | exact rfl | exact lm_arB (by omega) | exact lm_arM (by omega)); omega)
    | ((with_reducible apply lm_wA); exact rfl; omega)
    | ((with_reducible apply lm_wJ); exact rfl; omega)
    | ((with_reducible apply lm_wB); (first | exact rfl | exact lm_arB (by omega) | exact lm_arM (by omega)); omega)
    | ((with_reducible apply lm_sAl); (first | exact rfl | exact lm_arB (by omega) | exact lm_arM (by omega)); omega)
    | ((with_reducible apply lm_iW); decide))
  refine lm_cV c1 ?_
  rw [lm_K0, lm_K3]
  repeat (first
    | ((with_reducible apply lm_sI); exact rfl)
    | ((with_reducible apply lm_sR); exact rfl)
    | ((with_reducible apply lm_sS); exact rfl; exact rfl)
    | ((with_reducible apply lm_sL); exact rfl)
    | ((with_reducible apply lm_sP); exact rfl; exact rfl)
    | ((with_reducible apply lm_sPL); exact rfl; exact rfl)
    | ((with_reducible apply lm_sAA); exact rfl; first | exact rfl | exact lm_roO (by omega) | exact lm_roM (by omega))
    | ((with_reducible apply lm_sI); exact lm_fpL (by omega))
    | ((with_reducible apply lm_sR); exact lm_fpB (by omega))
    | ((with_reducible apply lm_sP); exact lm_fpL (by omega); exact rfl)
    | ((with_reducible apply lm_sS); exact lm_ocO (by omega); exact rfl)
    | ((with_reducible apply lm_sA); exact rfl; omega)
    | ((with_reducible apply lm_sJ); exact rfl; omega)
    | ((with_reducible apply lm_sB); (first | exact rfl | exact lm_arB (by omega) | exact lm_arM (by omega)); omega)
    | ((with_reducible apply lm_wA); exact rfl; omega)
    | ((with_reducible apply lm_wJ); exact rfl; omega)
    | ((with_reducible apply lm_wB); (first | exact rfl | exact lm_arB (by omega) | exact lm_arM (by omega)); omega)
    | ((with_reducible apply lm_sAl); (first | exact rfl | exact lm_arB (by omega) | exact lm_arM (by omega)); omega)
    | ((with_reducible apply lm_iW); decide))
  simp only [Nat.reduceDiv, Nat.reduceMod]
  rw [f1 26 (by decide) (by decide), hl, F1.2.1, lm_om]
  refine lm_neT (by omega) (by omega) hne ?_
  refine lm_e106_41 ?_
  unfold lm_q106_41
  exact lm_cVe (lm_u150e (d := d + 7) hr)
end LMTA
