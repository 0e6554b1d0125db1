/-! ===== SLH of the class: starts with their frames; the seed's mark; chains ===== -/
def lm_fO (o : Nat) (m : lm_MI) (n : lm_ML) (m' : lm_MI) (n' : lm_ML) : Prop := (∀ q, q < o ∨ o + 5 < q → m' q = m q) ∧ (∀ q, q < o ∨ o + 5 < q → n' q = n q)
theorem lm_fO.tr {o : Nat} {m m1 m2 : lm_MI} {n n1 n2 : lm_ML} (h : lm_fO o m n m1 n1) (g : lm_fO o m1 n1 m2 n2) : lm_fO o m n m2 n2 := ⟨fun q a => (g.1 q a).trans (h.1 q a), fun q a => (g.2 q a).trans (h.2 q a)⟩
theorem lm_fa.O {o ks : Nat} {m m1 : lm_MI} {n n1 : lm_ML} (h : lm_fa o ks m n m1 n1) : lm_fO o m n m1 n1 := ⟨h.1, h.2.1⟩
theorem lm_fM.O {o : Nat} {m m1 : lm_MI} {n n1 : lm_ML} (h : lm_fM o m n m1 n1) : lm_fO o m n m1 n1 := ⟨h.1, h.2.1⟩
theorem lm_fM.rt {k : Nat} {m m' : lm_MI} {n n' : lm_ML} (hk : lm_k3 k) (f : lm_fM (lm_obj k) m n m' n') (h : ln_rt m) : ln_rt m' := by
  rcases hk with e | e | e
  · subst e
    exact ⟨(f.2.2 1 (by decide)).trans h.1, by rw [f.1 17 (by decide)]; exact h.2⟩
  · subst e
    exact ⟨by rw [f.1 11 (by decide)]; exact h.1, (f.2.2 1 (by decide)).trans h.2⟩
  · subst e
    exact ⟨by rw [f.1 11 (by decide)]; exact h.1, by rw [f.1 17 (by decide)]; exact h.2⟩
section LMSS
variable {xs : List Int32} {sc : lm_H} {C : lm_CX} {d s k : Nat} {m m' : lm_MI} {n n' : lm_ML} {x : lm_H × Nat × Nat} {P A X G : Nat → Int32}
theorem lm_cs3 (hk : lm_k3 k) (hC : lm_Cok xs C) (hr : ln_rt m) : ∃ m' n', lm_cal (lm_sc xs) (d + 3) 139 [.ref 4, .int (Int32.ofNat k)] (lm_w m n x) = some (.ok (some (.ref (lm_obj k))), lm_w m' n' x) ∧ lm_CS m' n' k (lm_MS C k G 0) ∧ lm_fO (lm_obj k) m n m' n' ∧ ln_rt m' := by
  obtain ⟨n0, ⟨i1, i2, i3⟩, e⟩ := hC.2
  have e2 : lm_MS C k G 0 = (0, Int64.ofNat 0, lm_st0' (n0 215) (n0 217) (n0 218) k (fun _ => 0), fun _ => 0) := by
    show lm_ms0 C k = _
    unfold lm_ms0
    rw [e]
  rw [e2]
  have hb := lm_k3_b hk
  have key : ∃ m' n', lm_cal (lm_sc xs) (d + 2) (lm_sy k) [.ref (lm_obj k), .int (Int32.ofNat k)] (lm_w m n x) = some (.ok none, lm_w m' n' x) ∧ lm_CS m' n' k (0, Int64.ofNat 0, lm_st0' (n0 215) (n0 217) (n0 218) k (fun _ => 0), fun _ => 0) ∧ lm_fO (lm_obj k) m n m' n' ∧ ln_rt m' := by
    rcases hk with e | e | e
    · subst e
      refine ⟨_, _, lm_u201 (d := d) (Or.inl rfl), ⟨⟨by decide, rfl, ?_, lm_u_eq, fun i hi => ?_, fun i hi => absurd hi (by show ¬ i < 0; omega)⟩, lm_u_eq⟩, ⟨fun q hq => ?_, fun q hq => ?_⟩, ?_, ?_⟩
      · rw [lm_u_ne (by decide), lm_fl_row (by decide)]; exact hr.1
      · rw [lm_u_row (by decide), lm_fl_in (by omega)]
        show lm_iv2 1 i = Int64.toInt32 (lm_st0' (n0 215) (n0 217) (n0 218) 1 (fun _ => 0) i)
        unfold lm_st0' lm_ini lm_iv2
        rw [if_pos (show i < 25 by omega), if_pos (show 1 ≤ 6 ∧ i < 8 by omega), if_neg (by omega), if_pos rfl, i1 i (by omega)]
      · have hq' : q < 11 ∨ 11 + 5 < q := hq
        rw [lm_u_row (by omega), lm_fl_row (by omega)]
      · have hq' : q < 11 ∨ 11 + 5 < q := hq
        exact lm_u_row (by omega)
      · rw [lm_u_ne (by decide), lm_fl_row (by decide)]; exact hr.1
      · rw [lm_u_row (by decide), lm_fl_row (by decide)]; exact hr.2
    · subst e
      refine ⟨_, _, lm_u202 (d := d) (Or.inr (Or.inl rfl)), ⟨⟨by decide, rfl, ?_, lm_u_eq, fun i hi => ?_, fun i hi => absurd hi (by show ¬ i < 0; omega)⟩, lm_u_eq⟩, ⟨fun q hq => ?_, fun q hq => ?_⟩, ?_, ?_⟩
      · rw [lm_u_ne (by decide)]; exact hr.2
      · rw [lm_u_row (by decide), lm_fl_in (by omega)]
        show lm_iv5 3 i = lm_st0' (n0 215) (n0 217) (n0 218) 3 (fun _ => 0) i
        unfold lm_st0' lm_ini lm_iv5
        rw [if_pos (show i < 25 by omega), if_pos (show 3 ≤ 6 ∧ i < 8 by omega), if_neg (show ¬ 3 = 1 by omega), if_neg (show ¬ 3 = 4 by omega), if_neg (by omega), if_neg (by omega), if_neg (by omega), if_neg (by omega), if_neg (by omega), if_neg (by omega), i1 i (by omega)]
      · have hq' : q < 17 ∨ 17 + 5 < q := hq
        exact lm_u_row (by omega)
      · have hq' : q < 17 ∨ 17 + 5 < q := hq
        rw [lm_u_row (by omega), lm_fl_row (by omega)]
      · rw [lm_u_row (by decide)]; exact hr.1
      · rw [lm_u_ne (by decide)]; exact hr.2
    · subst e
      obtain ⟨m', n', c, s', f⟩ := lm_csto (xs := xs) (d := d) (x := x) (m := m) (n := n) (k := 12) (by decide) (by decide) hr.1 hr.2 (nr := n0) ⟨i1, i2, i3⟩ (J := fun _ => 0) (b := fun _ => 0)
      have c' := lm_u200 (xs := xs) (d := d) (k := 12) (m := m) (n := n) (x := x) (by decide) (by decide)
      obtain ⟨⟨_, _, _, _, _, _, s7⟩, _, _⟩ := (show lm_C5 m' n' 12 (lm_rate 12) _ ∧ n' 5 3 = _ ∧ m' 5 10 = lm_sfx 12 from s')
      refine ⟨_, _, c', ⟨⟨by decide, by decide, by decide, by decide, ?_, lm_u_eq, fun i hi => ?_⟩, lm_u_eq, ?_⟩, ⟨fun q hq => ?_, fun q hq => ?_⟩, ?_, ?_⟩
      · rw [lm_u_ne (by decide), lm_u_ne (by decide), lm_u_eq]
      · show lm_st0' (n0 215) (n0 217) (n0 218) 12 (fun _ => 0) i = lm_u (lm_fil n 8 0 25 fun _ => Int64.ofNat 0) 5 3 (Int64.ofNat 0) 8 i
        rw [lm_u_row (by decide), lm_fl_in (by omega)]
        unfold lm_st0'
        rw [if_pos hi, if_neg (by omega)]
      · rw [lm_u_ne (by decide), lm_u_eq]
      · have hq' : q < 5 ∨ 5 + 5 < q := hq
        rw [lm_u_row (by omega), lm_u_row (by omega), lm_u_row (by omega)]
      · have hq' : q < 5 ∨ 5 + 5 < q := hq
        rw [lm_u_row (by omega), lm_fl_row (by omega)]
      · rw [lm_u_row (by decide), lm_u_row (by decide), lm_u_row (by decide)]; exact hr.1
      · rw [lm_u_row (by decide), lm_u_row (by decide), lm_u_row (by decide)]; exact hr.2
  obtain ⟨m', n', c, s', f⟩ := key
  refine ⟨m', n', ?_, s', f⟩
  refine lm_cal_of (Y := lm_m139) rfl rfl (lm_e139_0 ?_)
  unfold lm_q139_0
  repeat (first
    | ((with_reducible apply lm_sI); exact rfl)
    | ((with_reducible apply lm_sR); exact rfl)
    | ((with_reducible apply lm_sS); exact rfl; exact rfl)
    | ((with_reducible apply lm_sL); exact rfl)
    | ((with_reducible apply lm_sP); exact rfl; exact rfl)
    | ((with_reducible apply lm_sPL); exact rfl; exact rfl)
    | ((with_reducible apply lm_sAA); exact rfl; first | exact rfl | exact lm_roO (by omega) | exact lm_roM (by omega))
    | ((with_reducible apply lm_sI); exact lm_fpL (by omega))
    | ((with_reducible apply lm_sR); exact lm_fpB (by omega))
    | ((with_reducible apply lm_sP); exact lm_fpL (by omega); exact rfl)
    | ((with_reducible apply lm_sS); exact lm_ocO (by omega); exact rfl)
    | ((with_reducible apply lm_sA); exact rfl; omega)
    | ((with_reducible apply lm_sJ); exact rfl; omega)
    | ((with_reducible apply lm_sB); (first | exact rfl | exact lm_arB (by omega) | exact lm_arM (by omega)); omega)
    | ((with_reducible apply lm_wA); exact rfl; omega)
    | ((with_reducible apply lm_wJ); exact rfl; omega)
    | ((with_reducible apply lm_wB); (first | exact rfl | exact lm_arB (by omega) | exact lm_arM (by omega)); omega)
    | ((with_reducible apply lm_sAl); (first | exact rfl | exact lm_arB (by omega) | exact lm_arM (by omega)); omega)
    | ((with_reducible apply lm_iW); decide))
  refine lm_cR (lm_u204 (d := d + 1) hb.2 hb.1) ?_
  refine lm_selS hb.1 hb.2 ?_
  exact lm_cV c rfl
/-- a seed is marked -/
theorem lm_u308 {q v a : Nat} (hC : lm_Cok xs C) (hs : s ≤ 11) (h : lm_SF m s) (hr : ln_rt m) (hk : k = ln_nk s ∨ k = lm_wk s) (hq : lm_ar q = some (1, v)) (gq : 22 < q) (gq' : q ≠ 199) (hav : a + lm_sn s ≤ v) (hv : v ≤ 70000) (hP : ∀ t, t < lm_sn s → lm_b8 (m q (a + t)) = lm_b8 (P t)) : ∃ m' n', lm_cal (lm_sc xs) (d + 5) 308 [.ref 194, .int (Int32.ofNat k), .ref q, .int (Int32.ofNat a)] (lm_w m n x) = some (.ok none, lm_w m' n' x) ∧ lm_KPk k m' n' (lm_pS C k (lm_sn s) P) ∧ (∀ r, (r < lm_obj k ∨ lm_obj k + 5 < r) → r ≠ 199 → m' r = m r) ∧ (∀ r, (r < lm_obj k ∨ lm_obj k + 5 < r) → n' r = n r) ∧ ln_rt m' := by
  have hpar := lm_spar s hs
  have k3 : lm_k3 k := by rcases hk with e | e <;> rw [e]; exact ln_nk3; exact lm_wk3
  have hb := lm_k3_b k3
  have oc := lm_obj_c k3
  have hsk : k = 12 ↔ s < 6 := by
    unfold ln_nk lm_wk at hk
    by_cases c : s < 6
    · rw [if_pos c, if_pos c] at hk
      omega
    · rw [if_neg c, if_neg c] at hk
      by_cases c2 : lm_sn s = 16
      · rw [if_pos c2] at hk; omega
      · rw [if_neg c2] at hk; omega
  have hrt : k ≠ 12 → 64 ≤ lm_rate k ∧ lm_rate k ≤ 128 := by
    intro hn
    rcases k3 with e | e | e
    · rw [e]; decide
    · rw [e]; decide
    · exact absurd e hn
  generalize eG : (fun t => if t < lm_sn s then lm_b8 (P t) else 0) = G
  have hG : ∀ t, G t = if t < lm_sn s then lm_b8 (P t) else 0 := fun t => by rw [← eG]
  obtain ⟨m1, n1, c1, s1, f1, r1⟩ := lm_cs3 (d := d + 1) (x := x) (n := n) (G := G) k3 hC hr
  obtain ⟨m2, n2, c2, s2, f2⟩ := lm_cadd (d := d) (x := x) hC.1 hb.1 hb.2 (q := q) (v := v) (a := a) (l := lm_sn s) (by omega) hq hav hv lm_MS_lt s1
  rw [ln_hps_sh (G := G) (lm_sn s) a 0 _ (fun t ht => by rw [f1.1 q (by omega), hP t ht, Nat.zero_add, hG, if_pos ht]), ← lm_MS_add, Nat.zero_add] at s2
  have F12 := f1.tr f2.O
  have rt2 := (f2.C hb.1 hb.2).rt r1
  have e2 : m2 194 = m 194 := F12.1 194 (by omega)
  by_cases c : s < 6
  · have ek := hsk.mpr c
    have sp : lm_pS C k (lm_sn s) P = lm_MS C k G (lm_sn s) := by unfold lm_pS lm_pre; rw [if_pos ek, eG]
    obtain ⟨m3, n3, c3, K3, f3⟩ := lm_mark (xs := xs) (d := d + 2) (x := x) k3 lm_MS_lt s2
    rw [← sp] at K3
    have F := F12.tr f3.O
    have rt3 : ln_rt m3 := f3.rt k3 rt2
    refine ⟨m3, n3, ?_, K3, fun r a _ => F.1 r a, F.2, rt3⟩
    clear K3 s1 s2 hP eG sp
    refine lm_cal_of (Y := lm_m308) rfl rfl (lm_e308_0 ?_)
    unfold lm_q308_0
    repeat (first
    | ((with_reducible apply lm_sI); exact rfl)
    | ((with_reducible apply lm_sR); exact rfl)
    | ((with_reducible apply lm_sS); exact rfl; exact rfl)
    | ((with_reducible apply lm_sL); exact rfl)
    | ((with_reducible apply lm_sP); exact rfl; exact rfl)
    | ((with_reducible apply lm_sPL); exact rfl; exact rfl)
    | ((with_reducible apply lm_sAA); exact rfl; exact rfl)
    | ((with_reducible apply lm_sA); (first | exact rfl | assumption); omega)
    | ((with_reducible apply lm_sJ); (first | exact rfl | assumption); omega)
    | ((with_reducible apply lm_sB); (first | exact rfl | assumption); omega)
    | ((with_reducible apply lm_wA); (first | exact rfl | assumption); omega)
    | ((with_reducible apply lm_wJ); (first | exact rfl | assumption); omega)
    | ((with_reducible apply lm_wB); (first | exact rfl | assumption); omega)
    | ((with_reducible apply lm_sAl); (first | exact rfl | assumption); omega)
    | ((with_reducible apply lm_iW); decide))
    refine lm_cR c1 ?_
    repeat (first
    | ((with_reducible apply lm_sI); exact rfl)
    | ((with_reducible apply lm_sR); exact rfl)
    | ((with_reducible apply lm_sS); exact rfl; exact rfl)
    | ((with_reducible apply lm_sL); exact rfl)
    | ((with_reducible apply lm_sP); exact rfl; exact rfl)
    | ((with_reducible apply lm_sPL); exact rfl; exact rfl)
    | ((with_reducible apply lm_sAA); exact rfl; exact rfl)
    | ((with_reducible apply lm_sA); (first | exact rfl | assumption); omega)
    | ((with_reducible apply lm_sJ); (first | exact rfl | assumption); omega)
    | ((with_reducible apply lm_sB); (first | exact rfl | assumption); omega)
    | ((with_reducible apply lm_wA); (first | exact rfl | assumption); omega)
    | ((with_reducible apply lm_wJ); (first | exact rfl | assumption); omega)
    | ((with_reducible apply lm_wB); (first | exact rfl | assumption); omega)
    | ((with_reducible apply lm_sAl); (first | exact rfl | assumption); omega)
    | ((with_reducible apply lm_iW); decide))
    simp only [Nat.reduceDiv, Nat.reduceMod]
    rw [f1.1 194 (by omega), h.2.1]
    refine lm_selA hb.1 hb.2 ?_
    refine lm_cV c2 ?_
    refine lm_sIz rfl ?_
    simp only [Nat.reduceDiv, Nat.reduceMod]
    rw [e2, h.1]
    have esk : lm_sk s = true := decide_eq_true c
    rw [esk]
    refine lm_iT (show ¬ (1 : Int32) = 0 by decide) ?_
    refine lm_selM k3 ?_
    exact lm_cV c3 rfl
  · have ek : k ≠ 12 := fun e => c (hsk.mp e)
    have hR := hrt ek
    have sp : lm_pS C k (lm_sn s) P = lm_MS C k G (lm_rate k) := by unfold lm_pS lm_pre; rw [if_neg ek, eG]
    generalize eM3 : lm_fil m2 199 0 (lm_rate k) (fun _ => Int32.ofInt 0) = M3
    have u134 := lm_u134 (sc := lm_sc xs) (d := d + 2) (m := m2) (n := n2) (x := x) (q := 199) (k := 2144) (a := 0) (c := lm_rate k) (v := Int32.ofInt 0) rfl (by omega) (by omega)
    rw [eM3] at u134
    have r3 : ∀ r, r ≠ 199 → M3 r = m2 r := fun r hr => by rw [← eM3, lm_fl_row hr]
    have s3 : lm_CS M3 n2 k (lm_MS C k G (lm_sn s)) := lm_CS_m hb.1 hb.2 s2 (fun r a b => r3 r (by omega)) (fun _ _ _ => rfl)
    obtain ⟨m4, n4, c4, s4, f4⟩ := lm_cadd (d := d) (x := x) hC.1 hb.1 hb.2 (q := 199) (v := 2144) (a := 0) (l := lm_rate k - lm_sn s) (by decide) rfl (by omega) (by decide) lm_MS_lt s3
    rw [ln_hps_sh (G := G) (lm_rate k - lm_sn s) 0 (lm_sn s) _ (fun t ht => by
      rw [Nat.zero_add, ← eM3, lm_fl_in (by omega), hG, if_neg (by omega)]
      decide), ← lm_MS_add, show lm_sn s + (lm_rate k - lm_sn s) = lm_rate k by omega] at s4
    have rt4 := (f4.C hb.1 hb.2).rt (⟨by rw [r3 11 (by decide)]; exact rt2.1, by rw [r3 17 (by decide)]; exact rt2.2⟩ : ln_rt M3)
    obtain ⟨m5, n5, c5, K5, f5⟩ := lm_mark (xs := xs) (d := d + 2) (x := x) k3 lm_MS_lt s4
    rw [← sp] at K5
    have rt5 : ln_rt m5 := f5.rt k3 rt4
    have FE := f4.O.tr f5.O
    refine ⟨m5, n5, ?_, K5, fun r a b => by rw [FE.1 r a, r3 r b, F12.1 r a], fun r a => by rw [FE.2 r a, F12.2 r a], rt5⟩
    clear K5 s1 hP eG sp
    refine lm_cal_of (Y := lm_m308) rfl rfl (lm_e308_0 ?_)
    unfold lm_q308_0
    repeat (first
    | ((with_reducible apply lm_sI); exact rfl)
    | ((with_reducible apply lm_sR); exact rfl)
    | ((with_reducible apply lm_sS); exact rfl; exact rfl)
    | ((with_reducible apply lm_sL); exact rfl)
    | ((with_reducible apply lm_sP); exact rfl; exact rfl)
    | ((with_reducible apply lm_sPL); exact rfl; exact rfl)
    | ((with_reducible apply lm_sAA); exact rfl; exact rfl)
    | ((with_reducible apply lm_sA); (first | exact rfl | assumption); omega)
    | ((with_reducible apply lm_sJ); (first | exact rfl | assumption); omega)
    | ((with_reducible apply lm_sB); (first | exact rfl | assumption); omega)
    | ((with_reducible apply lm_wA); (first | exact rfl | assumption); omega)
    | ((with_reducible apply lm_wJ); (first | exact rfl | assumption); omega)
    | ((with_reducible apply lm_wB); (first | exact rfl | assumption); omega)
    | ((with_reducible apply lm_sAl); (first | exact rfl | assumption); omega)
    | ((with_reducible apply lm_iW); decide))
    refine lm_cR c1 ?_
    repeat (first
    | ((with_reducible apply lm_sI); exact rfl)
    | ((with_reducible apply lm_sR); exact rfl)
    | ((with_reducible apply lm_sS); exact rfl; exact rfl)
    | ((with_reducible apply lm_sL); exact rfl)
    | ((with_reducible apply lm_sP); exact rfl; exact rfl)
    | ((with_reducible apply lm_sPL); exact rfl; exact rfl)
    | ((with_reducible apply lm_sAA); exact rfl; exact rfl)
    | ((with_reducible apply lm_sA); (first | exact rfl | assumption); omega)
    | ((with_reducible apply lm_sJ); (first | exact rfl | assumption); omega)
    | ((with_reducible apply lm_sB); (first | exact rfl | assumption); omega)
    | ((with_reducible apply lm_wA); (first | exact rfl | assumption); omega)
    | ((with_reducible apply lm_wJ); (first | exact rfl | assumption); omega)
    | ((with_reducible apply lm_wB); (first | exact rfl | assumption); omega)
    | ((with_reducible apply lm_sAl); (first | exact rfl | assumption); omega)
    | ((with_reducible apply lm_iW); decide))
    simp only [Nat.reduceDiv, Nat.reduceMod]
    rw [f1.1 194 (by omega), h.2.1]
    refine lm_selA hb.1 hb.2 ?_
    refine lm_cV c2 ?_
    refine lm_sIz rfl ?_
    simp only [Nat.reduceDiv, Nat.reduceMod]
    rw [e2, h.1]
    have esk : lm_sk s = false := decide_eq_false c
    rw [esk]
    refine lm_iF (show ¬ ¬ (0 : Int32) = 0 by decide) ?_
    repeat (first
    | ((with_reducible apply lm_sI); exact rfl)
    | ((with_reducible apply lm_sR); exact rfl)
    | ((with_reducible apply lm_sS); exact rfl; exact rfl)
    | ((with_reducible apply lm_sL); exact rfl)
    | ((with_reducible apply lm_sP); exact rfl; exact rfl)
    | ((with_reducible apply lm_sPL); exact rfl; exact rfl)
    | ((with_reducible apply lm_sAA); exact rfl; exact rfl)
    | ((with_reducible apply lm_sA); (first | exact rfl | assumption); omega)
    | ((with_reducible apply lm_sJ); (first | exact rfl | assumption); omega)
    | ((with_reducible apply lm_sB); (first | exact rfl | assumption); omega)
    | ((with_reducible apply lm_wA); (first | exact rfl | assumption); omega)
    | ((with_reducible apply lm_wJ); (first | exact rfl | assumption); omega)
    | ((with_reducible apply lm_wB); (first | exact rfl | assumption); omega)
    | ((with_reducible apply lm_sAl); (first | exact rfl | assumption); omega)
    | ((with_reducible apply lm_iW); decide))
    refine lm_CS_r hb.1 hb.2 s2 ?_
    rw [lm_K0]
    rw [lm_K0] at u134
    refine lm_cV u134 ?_
    repeat (first
    | ((with_reducible apply lm_sI); exact rfl)
    | ((with_reducible apply lm_sR); exact rfl)
    | ((with_reducible apply lm_sS); exact rfl; exact rfl)
    | ((with_reducible apply lm_sL); exact rfl)
    | ((with_reducible apply lm_sP); exact rfl; exact rfl)
    | ((with_reducible apply lm_sPL); exact rfl; exact rfl)
    | ((with_reducible apply lm_sAA); exact rfl; exact rfl)
    | ((with_reducible apply lm_sA); (first | exact rfl | assumption); omega)
    | ((with_reducible apply lm_sJ); (first | exact rfl | assumption); omega)
    | ((with_reducible apply lm_sB); (first | exact rfl | assumption); omega)
    | ((with_reducible apply lm_wA); (first | exact rfl | assumption); omega)
    | ((with_reducible apply lm_wJ); (first | exact rfl | assumption); omega)
    | ((with_reducible apply lm_wB); (first | exact rfl | assumption); omega)
    | ((with_reducible apply lm_sAl); (first | exact rfl | assumption); omega)
    | ((with_reducible apply lm_iW); decide))
    refine lm_CS_r hb.1 hb.2 s3 ?_
    repeat (first
    | ((with_reducible apply lm_sI); exact rfl)
    | ((with_reducible apply lm_sR); exact rfl)
    | ((with_reducible apply lm_sS); exact rfl; exact rfl)
    | ((with_reducible apply lm_sL); exact rfl)
    | ((with_reducible apply lm_sP); exact rfl; exact rfl)
    | ((with_reducible apply lm_sPL); exact rfl; exact rfl)
    | ((with_reducible apply lm_sAA); exact rfl; exact rfl)
    | ((with_reducible apply lm_sA); (first | exact rfl | assumption); omega)
    | ((with_reducible apply lm_sJ); (first | exact rfl | assumption); omega)
    | ((with_reducible apply lm_sB); (first | exact rfl | assumption); omega)
    | ((with_reducible apply lm_wA); (first | exact rfl | assumption); omega)
    | ((with_reducible apply lm_wJ); (first | exact rfl | assumption); omega)
    | ((with_reducible apply lm_wB); (first | exact rfl | assumption); omega)
    | ((with_reducible apply lm_sAl); (first | exact rfl | assumption); omega)
    | ((with_reducible apply lm_iW); decide))
    simp only [Nat.reduceDiv, Nat.reduceMod]
    rw [r3 194 (by decide), e2, h.2.1, lm_osu (by omega)]
    refine lm_selA hb.1 hb.2 ?_
    refine lm_cV c4 ?_
    refine lm_selM k3 ?_
    exact lm_cV c5 rfl
/-- the public seed is taken -/
theorem lm_u270 {q v a : Nat} (hC : lm_Cok xs C) (hs : s ≤ 11) (h : lm_SF m s) (hr : ln_rt m) (hq : lm_ar q = some (1, v)) (gq : 22 < q) (gq' : q ≠ 199) (hav : a + lm_sn s ≤ v) (hv : v ≤ 70000) (hP : ∀ t, t < lm_sn s → lm_b8 (m q (a + t)) = lm_b8 (P t)) : ∃ m' n', lm_cal (lm_sc xs) (d + 6) 270 [.ref 194, .ref q, .int (Int32.ofNat a)] (lm_w m n x) = some (.ok none, lm_w m' n' x) ∧ lm_SM C s P m' n' ∧ (∀ r, (r < 5 ∨ 22 < r) → r ≠ 199 → m' r = m r) ∧ lm_fN m n m' n' := by
  have hpar := lm_spar s hs
  have o1 := lm_obj_c (ln_nk3 (s := s))
  have o2 := lm_obj_c (lm_wk3 (s := s))
  obtain ⟨m1, n1, c1, K1, f1, g1, r1⟩ := lm_u308 (P := P) (d := d) (x := x) (n := n) hC hs h hr (Or.inl rfl) hq gq gq' hav hv hP
  have e1 : m1 194 = m 194 := f1 194 (by omega) (by decide)
  have SF1 : lm_SF m1 s := by unfold lm_SF; rw [e1]; exact h
  have e14 : ∀ R, (if lm_obj (lm_wk s) = lm_obj (ln_nk s) then lm_ret none else lm_bind (lm_gI 4044 194) fun v4 => lm_bind (lm_sel [(10, 308)] (some (.ref 194))) fun y5 => lm_bind (lm_asV (lm_cal (lm_sc xs) (d + 5) y5 [.ref 194, .int v4, .ref q, .int (Int32.ofNat a)])) fun _ => lm_ret none) (lm_w m1 n1 x) = some R → lm_cal (lm_sc xs) (d + 6) 270 [.ref 194, .ref q, .int (Int32.ofNat a)] (lm_w m n x) = some R := by
    intro R KK
    clear K1 hP
    have e14' : lm_rn (lm_sc xs) (d + 5) lm_m270.2.2.2.2.1 (lm_reg lm_m270.2.2.2.2.2) (14, [(0, .ref 194), (1, .ref q), (2, .int (Int32.ofNat a))], [.int (Int32.ofNat (ln_nk s)), .ref 194]) (lm_w m n x) = some R := by
      refine lm_e270_14 ?_
      unfold lm_q270_14
      repeat (first
    | ((with_reducible apply lm_sI); exact rfl)
    | ((with_reducible apply lm_sR); exact rfl)
    | ((with_reducible apply lm_sS); exact rfl; exact rfl)
    | ((with_reducible apply lm_sL); exact rfl)
    | ((with_reducible apply lm_sP); exact rfl; exact rfl)
    | ((with_reducible apply lm_sPL); exact rfl; exact rfl)
    | ((with_reducible apply lm_sAA); exact rfl; exact rfl)
    | ((with_reducible apply lm_sA); (first | exact rfl | assumption); omega)
    | ((with_reducible apply lm_sJ); (first | exact rfl | assumption); omega)
    | ((with_reducible apply lm_sB); (first | exact rfl | assumption); omega)
    | ((with_reducible apply lm_wA); (first | exact rfl | assumption); omega)
    | ((with_reducible apply lm_wJ); (first | exact rfl | assumption); omega)
    | ((with_reducible apply lm_wB); (first | exact rfl | assumption); omega)
    | ((with_reducible apply lm_sAl); (first | exact rfl | assumption); omega)
    | ((with_reducible apply lm_iW); decide))
      refine lm_cV c1 ?_
      refine lm_sRh rfl ?_
      refine lm_sRh rfl ?_
      simp only [Nat.reduceDiv, Nat.reduceMod]
      rw [SF1.2.2.2.2.2.2.2.2.2.2, SF1.2.2.2.2.2.2.2.2.2.1, o1.1, o2.1]
      refine lm_iW ⟨Nat.lt_of_le_of_lt o2.2.1 (by decide), Nat.lt_of_le_of_lt o1.2.1 (by decide)⟩ ?_
      exact KK
    refine lm_cal_of (Y := lm_m270) rfl rfl (lm_e270_0 ?_)
    unfold lm_q270_0
    refine lm_sIz rfl ?_
    simp only [Nat.reduceDiv, Nat.reduceMod]
    rw [h.1]
    unfold ln_nk at e14'
    by_cases c : s < 6
    · have esk : lm_sk s = true := decide_eq_true c
      rw [if_pos c] at e14'
      rw [esk]
      exact lm_iF (show ¬ (1 : Int32) = 0 by decide) e14'
    · have esk : lm_sk s = false := decide_eq_false c
      rw [if_neg c] at e14'
      rw [esk]
      exact lm_iT (show (0 : Int32) = 0 by decide) e14'
  by_cases co : lm_wk s = ln_nk s
  · have eo : lm_obj (lm_wk s) = lm_obj (ln_nk s) := by rw [co]
    refine ⟨m1, n1, e14 _ (by rw [if_pos eo]; rfl), ⟨SF1, r1, K1, by rw [co]; exact K1⟩, fun r a b => f1 r (by omega) b, ⟨fun r a => g1 r (by omega), r1.1.trans hr.1.symm, r1.2.trans hr.2.symm⟩⟩
  · have oo := lm_k3_ob ln_nk3 lm_wk3 (fun e => co e.symm)
    have eo : ¬ lm_obj (lm_wk s) = lm_obj (ln_nk s) := by omega
    obtain ⟨m2, n2, c2, K2, f2, g2, r2⟩ := lm_u308 (P := P) (d := d) (x := x) (n := n1) hC hs SF1 r1 (Or.inr rfl) hq gq gq' hav hv (fun t ht => by rw [f1 q (by omega) gq']; exact hP t ht)
    have K1' : lm_KPk (ln_nk s) m2 n2 (lm_pS C (ln_nk s) (lm_sn s) P) := K1.ob ln_nk3 (fun r a b => f2 r (by omega) (by omega)) (fun r a b => g2 r (by omega))
    refine ⟨m2, n2, e14 _ ?_, ⟨by unfold lm_SF; rw [f2 194 (by omega) (by decide)]; exact SF1, r2, K1', K2⟩, fun r a b => by rw [f2 r (by omega) b, f1 r (by omega) b], ⟨fun r a => by rw [g2 r (by omega), g1 r (by omega)], r2.1.trans hr.1.symm, r2.2.trans hr.2.symm⟩⟩
    rw [if_neg eo]
    clear K1 K2 K1' hP
    repeat (first
    | ((with_reducible apply lm_sI); exact rfl)
    | ((with_reducible apply lm_sR); exact rfl)
    | ((with_reducible apply lm_sS); exact rfl; exact rfl)
    | ((with_reducible apply lm_sL); exact rfl)
    | ((with_reducible apply lm_sP); exact rfl; exact rfl)
    | ((with_reducible apply lm_sPL); exact rfl; exact rfl)
    | ((with_reducible apply lm_sAA); exact rfl; exact rfl)
    | ((with_reducible apply lm_sA); (first | exact rfl | assumption); omega)
    | ((with_reducible apply lm_sJ); (first | exact rfl | assumption); omega)
    | ((with_reducible apply lm_sB); (first | exact rfl | assumption); omega)
    | ((with_reducible apply lm_wA); (first | exact rfl | assumption); omega)
    | ((with_reducible apply lm_wJ); (first | exact rfl | assumption); omega)
    | ((with_reducible apply lm_wB); (first | exact rfl | assumption); omega)
    | ((with_reducible apply lm_sAl); (first | exact rfl | assumption); omega)
    | ((with_reducible apply lm_iW); decide))
    simp only [Nat.reduceDiv, Nat.reduceMod]
    rw [SF1.2.2.2.2.2.2.2.2.1]
    exact lm_cV c2 rfl
/-- both seeds are taken -/
theorem lm_u192 {q v : Nat} (hC : lm_Cok xs C) (hs : s ≤ 11) (h : lm_SF m s) (hr : ln_rt m) (hq : lm_ar q = some (1, v)) (gq : 22 < q) (gq' : q ≠ 199) (gq'' : q ≠ 196) (hav : 3 * lm_sn s ≤ v) (hv : v ≤ 70000) (hP : ∀ t, t < lm_sn s → lm_b8 (m q (2 * lm_sn s + t)) = lm_b8 (P t)) : ∃ m' n', lm_cal (lm_sc xs) (d + 7) 192 [.ref 194, .ref q] (lm_w m n x) = some (.ok none, lm_w m' n' x) ∧ lm_SM C s P m' n' ∧ (∀ r, (r < 5 ∨ 22 < r) → r ≠ 196 → r ≠ 199 → m' r = m r) ∧ lm_fN m n m' n' ∧ ∀ t, t < lm_sn s → m' 196 t = m q t := by
  have hpar := lm_spar s hs
  generalize eM : lm_cp m 196 0 q 0 (lm_sn s) = M
  have rM : ∀ r, r ≠ 196 → M r = m r := fun r hr => by rw [← eM, lm_cp_row hr]
  have SFM : lm_SF M s := by unfold lm_SF; rw [rM 194 (by decide)]; exact h
  obtain ⟨m1, n1, c1, S1, f1, g1⟩ := lm_u270 (P := P) (d := d) (x := x) (m := M) (n := n) (a := 2 * lm_sn s) hC hs SFM ⟨by rw [rM 11 (by decide)]; exact hr.1, by rw [rM 17 (by decide)]; exact hr.2⟩ hq gq gq' (by omega) hv (fun t ht => by rw [rM q gq'']; exact hP t ht)
  refine ⟨m1, n1, ?_, S1, fun r a b c => by rw [f1 r a c, rM r b], ⟨g1.1, by rw [g1.2.1, rM 11 (by decide)], by rw [g1.2.2, rM 17 (by decide)]⟩, fun t ht => by rw [f1 196 (by decide) (by decide), ← eM, lm_rc, if_pos (by omega)]; rfl⟩
  refine lm_cal_of (Y := lm_m192) rfl rfl (lm_e192_0 ?_)
  unfold lm_q192_0
  rw [lm_K0, lm_K2]
  repeat (first
    | ((with_reducible apply lm_sI); exact rfl)
    | ((with_reducible apply lm_sR); exact rfl)
    | ((with_reducible apply lm_sS); exact rfl; exact rfl)
    | ((with_reducible apply lm_sL); exact rfl)
    | ((with_reducible apply lm_sP); exact rfl; exact rfl)
    | ((with_reducible apply lm_sPL); exact rfl; exact rfl)
    | ((with_reducible apply lm_sAA); exact rfl; exact rfl)
    | ((with_reducible apply lm_sA); (first | exact rfl | assumption); omega)
    | ((with_reducible apply lm_sJ); (first | exact rfl | assumption); omega)
    | ((with_reducible apply lm_sB); (first | exact rfl | assumption); omega)
    | ((with_reducible apply lm_wA); (first | exact rfl | assumption); omega)
    | ((with_reducible apply lm_wJ); (first | exact rfl | assumption); omega)
    | ((with_reducible apply lm_wB); (first | exact rfl | assumption); omega)
    | ((with_reducible apply lm_sAl); (first | exact rfl | assumption); omega)
    | ((with_reducible apply lm_iW); decide))
  simp only [Nat.reduceDiv, Nat.reduceMod]
  rw [h.2.1]
  refine lm_sCp hq rfl (Or.inr rfl) (by omega) (by omega) ?_
  rw [eM]
  repeat (first
    | ((with_reducible apply lm_sI); exact rfl)
    | ((with_reducible apply lm_sR); exact rfl)
    | ((with_reducible apply lm_sS); exact rfl; exact rfl)
    | ((with_reducible apply lm_sL); exact rfl)
    | ((with_reducible apply lm_sP); exact rfl; exact rfl)
    | ((with_reducible apply lm_sPL); exact rfl; exact rfl)
    | ((with_reducible apply lm_sAA); exact rfl; exact rfl)
    | ((with_reducible apply lm_sA); (first | exact rfl | assumption); omega)
    | ((with_reducible apply lm_sJ); (first | exact rfl | assumption); omega)
    | ((with_reducible apply lm_sB); (first | exact rfl | assumption); omega)
    | ((with_reducible apply lm_wA); (first | exact rfl | assumption); omega)
    | ((with_reducible apply lm_wJ); (first | exact rfl | assumption); omega)
    | ((with_reducible apply lm_wB); (first | exact rfl | assumption); omega)
    | ((with_reducible apply lm_sAl); (first | exact rfl | assumption); omega)
    | ((with_reducible apply lm_iW); decide))
  simp only [Nat.reduceDiv, Nat.reduceMod]
  rw [SFM.2.1, lm_om]
  exact lm_cV c1 rfl
end LMSS
