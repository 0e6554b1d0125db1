/-! ===== dsaVerify of the reference: hints that are alike; the hashes and the ball; the end ===== -/
theorem lm_pv_x {cn cn' : Nat → Nat} {k i : Nat} (h : ∀ i, i < k → cn i = cn' i) (hi : i ≤ k) : lm_pv cn i = lm_pv cn' i := by
  cases i with
  | zero => rfl
  | succ i => exact h i (by omega)
theorem lm_hr_x {hb hb' cn cn' : Nat → Nat} {w k i : Nat} (h1 : ∀ j, j < w → hb j = hb' j) (h2 : ∀ i, i < k → cn i = cn' i) (hi : i < k) (h : lm_hr hb cn w i) : lm_hr hb' cn' w i := by
  obtain ⟨a, b, c⟩ := h
  have e1 := lm_pv_x h2 (show i ≤ k by omega)
  have e2 := h2 i hi
  unfold lm_hr
  rw [← e1, ← e2]
  refine ⟨a, b, fun j j1 j2 => ?_⟩
  rw [← h1 (j - 1) (by omega), ← h1 j (by omega)]
  exact c j j1 j2
theorem lm_ho_x {hb hb' cn cn' : Nat → Nat} {w k : Nat} (h1 : ∀ j, j < w → hb j = hb' j) (h2 : ∀ i, i < k → cn i = cn' i) (h : lm_ho' hb cn w k) : lm_ho' hb' cn' w k := by
  refine ⟨fun i hi => lm_hr_x h1 h2 hi (h.1 i hi), fun j j1 j2 => ?_⟩
  rw [← lm_pv_x h2 (Nat.le_refl k)] at j1
  rw [← h1 j j2]
  exact h.2 j j1 j2
theorem lm_fl_x {hb hb' cn cn' : Nat → Nat} {w k i c : Nat} (h1 : ∀ j, j < w → hb j = hb' j) (h2 : ∀ i, i < k → cn i = cn' i) (hi : i < k) (h : lm_hr hb cn w i) : ln_fl hb (lm_pv cn i) (cn i - lm_pv cn i) c = ln_fl hb' (lm_pv cn' i) (cn' i - lm_pv cn' i) c := by
  obtain ⟨a, b, _⟩ := h
  rw [← lm_pv_x h2 (show i ≤ k by omega), ← h2 i hi, Bool.eq_iff_iff, ln_fl_t, ln_fl_t]
  constructor
  · rintro ⟨j, hj, e⟩
    exact ⟨j, hj, by rw [← h1 _ (by omega)]; exact e⟩
  · rintro ⟨j, hj, e⟩
    exact ⟨j, hj, by rw [h1 _ (by omega)]; exact e⟩
section LMRE
variable {sc : lm_H} {C : lm_CX} {d s kk xl ml : Nat} {m : lm_MI} {n : lm_ML} {x : lm_H × Nat × Nat} {K Q X Mg : Nat → Int32}
theorem ln_u101 (hs : s ≤ 2) (h32 : m 203 32 = Int32.ofNat (lm_dk s)) (h47 : m 203 47 = Int32.ofNat (lm_do s)) (hQ : ∀ u, u < lm_dps s → lm_b8 (m 211 u) = lm_b8 (Q u)) : ∃ m', (∀ r, (r < 319 ∨ 326 < r) → m' r = m r) ∧ ((lm_cal sc (d + 1) 101 [.ref 203, .ref 211, .int (Int32.ofNat (lm_dsz s + 32 * lm_dw s * lm_dl s))] (lm_w m n x) = some (.ok (some (.int 1)), lm_w m' n x) ∧ lm_ho' (lm_vh Q s) (lm_vc Q s) (lm_do s) (lm_dk s) ∧ ∀ i, i < lm_dk s → ∀ c, c < 256 → lm_b1 (m' (319 + i) c) = lm_z (ln_fl (lm_vh Q s) (lm_pv (lm_vc Q s) i) (lm_vc Q s i - lm_pv (lm_vc Q s) i) c)) ∨ (lm_cal sc (d + 1) 101 [.ref 203, .ref 211, .int (Int32.ofNat (lm_dsz s + 32 * lm_dw s * lm_dl s))] (lm_w m n x) = some (.ok (some (.int 0)), lm_w m' n x) ∧ ¬ lm_ho' (lm_vh Q s) (lm_vc Q s) (lm_do s) (lm_dk s))) := by
  have hps := lm_dps_e s
  have h1 : ∀ j, j < lm_do s → lm_vh (m 211) s j = lm_vh Q s j := fun j hj => lm_b8_ne (hQ _ (by omega))
  have h2 : ∀ i, i < lm_dk s → lm_vc (m 211) s i = lm_vc Q s i := fun i hi => lm_b8_ne (hQ _ (by omega))
  obtain ⟨m', f, ⟨c, o, w⟩ | ⟨c, o⟩⟩ := lm_u101 (sc := sc) (d := d) (m := m) (n := n) (x := x) hs h32 h47
  · refine ⟨m', f, Or.inl ⟨c, lm_ho_x h1 h2 o, fun i hi cc hcc => ?_⟩⟩
    rw [w i hi cc hcc, lm_fl_x h1 h2 hi (o.1 i hi)]
  · exact ⟨m', f, Or.inr ⟨c, fun g => o (lm_ho_x (fun j hj => (h1 j hj).symm) (fun i hi => (h2 i hi).symm) g)⟩⟩
/-- the public's hash, what is signed, the ball -/
theorem lm_l32h (hs : s ≤ 2) (hR : lm_RD C s m n) (hE : lm_RE s m) (h1 : m 214 1 = Int32.ofNat (32 + 320 * lm_dk s)) (hK : ∀ u, u < 32 + 320 * lm_dk s → lm_b8 (m 207 u) = lm_b8 (K u)) (hQ : ∀ u, u < lm_dps s → lm_b8 (m 211 u) = lm_b8 (Q u)) (hk : kk ≤ 13) (hxk : kk = 0 ∨ xl ≤ 255) (hx : m 214 4 = Int32.ofNat xl) (hm : m 214 3 = Int32.ofNat ml) (hml : ml ≤ 65536) (hX : ∀ t, t < xl → lm_b8 (m 210 t) = lm_b8 (X t)) (hM : ∀ t, t < ml → lm_b8 (m 209 t) = lm_b8 (Mg t)) : ((lm_vB C Q s).1 = 256 ∧ ∃ m' n', ((∀ r, r ≠ 203 → r ≠ 227 → r ≠ 229 → r ≠ 316 → r ≠ 329 → r ≠ 330 → r ≠ 331 → m' r = m r) ∧ ln_fD m n m' n' ∧ m' 203 4 = 0 ∧ (∀ i, i < 64 → m' 330 i = lm_vM C K s kk X xl Mg ml i) ∧ ∀ c, c < 256 → m' 316 c = Int32.ofInt (ln_pt (fun c => (lm_vB C Q s).2 c % 8380417) c % 8380417)) ∧ ∀ R, lm_rn sc (d + 7) lm_m32.2.2.2.2.1 (lm_reg lm_m32.2.2.2.2.2) (362, [(0, .ref 203), (4, .int (Int32.ofNat 0))], []) (lm_w m' n' x) = some R → lm_rn sc (d + 7) lm_m32.2.2.2.2.1 (lm_reg lm_m32.2.2.2.2.2) (149, [(0, .ref 203), (2, .int (ln_kd kk)), (4, .int (Int32.ofNat (lm_dl s)))], []) (lm_w m n x) = some R) ∨ ((lm_vB C Q s).1 ≠ 256 ∧ ∃ m' n', ((∀ r, r ≠ 203 → r ≠ 227 → r ≠ 229 → r ≠ 316 → r ≠ 329 → r ≠ 330 → r ≠ 331 → m' r = m r) ∧ ln_fD m n m' n' ∧ m' 203 4 = Int32.ofInt 4) ∧ lm_rn sc (d + 7) lm_m32.2.2.2.2.1 (lm_reg lm_m32.2.2.2.2.2) (149, [(0, .ref 203), (2, .int (ln_kd kk)), (4, .int (Int32.ofNat (lm_dl s)))], []) (lm_w m n x) = some (.ok (some (.int 0)), lm_w m' n' x)) := by
  have hkl := lm_dkl hs
  have hpar := lm_dpar s hs
  have hps := lm_dps_e s
  obtain ⟨m2, n2, c2, s2, f2⟩ := lm_rS (sc := sc) (d := d + 5) (m := m) (n := n) (x := x) (k := 12) (G := fun t => lm_b8 (K t)) hR.1 (by decide) (by decide)
  have C2 := f2.cx.trans hR.1
  obtain ⟨m3, n3, c3, s3, f3⟩ := lm_rA (sc := sc) (d := d + 3) (m := m2) (n := n2) (x := x) (k := 12) (q := 207) (v := 65536) (a := 0) (l := 32 + 320 * lm_dk s) (L := 0) (G := fun t => lm_b8 (K t)) C2 (by decide) (by decide) rfl (by omega) (by decide) (fun t ht => by
    rw [f2.1 207 (by decide) (by decide), Nat.zero_add]
    exact hK t ht) s2
  have C3 := f3.cx.trans C2
  rw [Nat.zero_add] at s3
  obtain ⟨m4, n4, c4, f4⟩ := lm_rG (sc := sc) (d := d + 2) (m := m3) (n := n3) (x := x) (k := 12) (q := 331) (v := 64) (a := 0) (l := 64) C3 (by decide) (by decide) rfl (by decide) (by decide) (fun h => absurd h (by decide)) s3
  have F4 := f2.tr (f3.tr f4)
  generalize eM5 : lm_fil m4 331 0 (0 + 64) (fun i => lm_Hm C 12 (fun t => lm_b8 (K t)) (32 + 320 * lm_dk s) (i - 0)) = M5 at c4
  have r5 : ∀ r, r ≠ 331 → M5 r = m4 r := fun r hr => by rw [← eM5, lm_fl_row hr]
  have e5 : ∀ r, r ≠ 203 → r ≠ 227 → r ≠ 331 → M5 r = m r := fun r q1 q2 q3 => by rw [r5 r q3, F4.1 r q1 q2]
  have G5 : lm_fG m n M5 n4 := F4.G.tr ⟨fun j _ _ _ => by rw [r5 203 (by decide)], fun _ _ _ _ _ _ _ => rfl⟩
  have C5 : lm_cx M5 n4 = C := (G5.cx (e5 221 (by decide) (by decide) (by decide))).trans hR.1
  have v5 : ∀ t, t < 64 → M5 331 t = ln_vR C K s t := fun t ht => by rw [← eM5, lm_fl_in (by omega), Nat.sub_zero]; rfl
  obtain ⟨m6, n6, c6, f6, g6, v6⟩ := lm_u97 (sc := sc) (C := C) (d := d) (m := M5) (n := n4) (x := x) (kk := kk) (xl := xl) (ml := ml) (X := X) (Mg := Mg) (q := 331) (v := 64) (a := 0) (a' := 0) (T := ln_vR C K s) C5 hk hxk (by rw [e5 214 (by decide) (by decide) (by decide)]; exact hx) (by rw [e5 214 (by decide) (by decide) (by decide)]; exact hm) hml (fun t ht => by rw [e5 210 (by decide) (by decide) (by decide)]; exact hX t ht) (fun t ht => by rw [e5 209 (by decide) (by decide) (by decide)]; exact hM t ht) rfl (by decide) (by decide) (by decide) (fun t ht => by rw [Nat.zero_add, v5 t ht])
  have G6 := G5.tr g6
  have e6 : ∀ r, r ≠ 203 → r ≠ 227 → r ≠ 329 → r ≠ 330 → r ≠ 331 → m6 r = m r := fun r q1 q2 q3 q4 q5 => by rw [f6 r q1 q2 q3 q4, e5 r q1 q2 q5]
  have C6 : lm_cx m6 n6 = C := (G6.cx (e6 221 (by decide) (by decide) (by decide) (by decide) (by decide))).trans hR.1
  have E6 : lm_RE s m6 := hE.of fun j a b => G6.1 j (by omega) (by omega) (by omega)
  obtain ⟨m7, n7, c7, f7, g7, v7⟩ := lm_u102 (sc := sc) (C := C) (d := d + 1) (m := m6) (n := n6) (x := x) (s := s) (p := 316) (q := 211) (v := 65536) (a := 0) (l := lm_dsz s) (G := fun t => lm_b8 (Q t)) hs rfl (by decide) C6 E6.1 E6.2.2.2.2.1 rfl (by decide) (by omega) (by decide) (fun t ht => by rw [e6 211 (by decide) (by decide) (by decide) (by decide) (by decide), Nat.zero_add]; exact hQ t (by omega))
  have eB : lm_vB C Q s = lm_ba (lm_Hm C 12 (fun t => lm_b8 (Q t)) (lm_dsz s)) (lm_dt' s) 121 := by unfold lm_vB; rfl
  rw [← eB] at c7 v7
  have G7 := G6.tr g7
  have e7 : ∀ r, r ≠ 203 → r ≠ 227 → r ≠ 229 → r ≠ 316 → r ≠ 329 → r ≠ 330 → r ≠ 331 → m7 r = m r := fun r q1 q2 q3 q4 q5 q6 q7 => by rw [f7 r q1 q2 q3 q4, e6 r q1 q2 q5 q6 q7]
  have run : ∀ R, lm_bind (lm_asI (lm_cal sc (d + 7) 102 [.ref 203, .ref 316, .ref 211, .int (Int32.ofNat 0)])) (fun v17 => lm_bind (lm_sel [(11, 49)] (some (.ref 203))) fun y18 => lm_bind (lm_asI (lm_cal sc (d + 7) y18 [.ref 203, .int v17, .int (Int32.ofInt 4)])) fun v19 => lm_if .ne v19 0 (lm_bind (lm_gR 4554 203) fun v20 => lm_bind (lm_aaR sc v20 (Int32.ofNat 46)) fun v21 => lm_bind (lm_asV (lm_cal sc (d + 7) 89 [.ref v21])) fun _ => lm_bind (lm_gR 4554 203) fun v22 => lm_bind (lm_aaR sc v22 (Int32.ofNat 46)) fun v23 => lm_bind (lm_sel [(11, 90)] (some (.ref 203))) fun y24 => lm_bind (lm_asV (lm_cal sc (d + 7) y24 [.ref 203, .ref v23])) fun _ => lm_rn sc (d + 7) lm_m32.2.2.2.2.1 (lm_reg lm_m32.2.2.2.2.2) (362, [(0, .ref 203), (4, .int (Int32.ofNat 0))], [])) (lm_when (Int32.ofNat 0 = 0 ∨ Int32.ofNat 0 = 1) inferInstance (lm_ret (some (.int (Int32.ofNat 0)))))) (lm_w m6 n6 x) = some R → lm_rn sc (d + 7) lm_m32.2.2.2.2.1 (lm_reg lm_m32.2.2.2.2.2) (149, [(0, .ref 203), (2, .int (ln_kd kk)), (4, .int (Int32.ofNat (lm_dl s)))], []) (lm_w m n x) = some R := by
    intro R KK
    clear c7 v7 eB v6 v5 s2 s3 hK hQ hX hM
    refine lm_e32_149 ?_
    unfold lm_q32_149
    repeat (first
    | ((with_reducible apply lm_sI); exact rfl)
    | ((with_reducible apply lm_sR); exact rfl)
    | ((with_reducible apply lm_sS); exact rfl; exact rfl)
    | ((with_reducible apply lm_sL); exact rfl)
    | ((with_reducible apply lm_sP); exact rfl; exact rfl)
    | ((with_reducible apply lm_sPL); exact rfl; exact rfl)
    | ((with_reducible apply lm_sAA); exact rfl; exact rfl)
    | ((with_reducible apply lm_sA); (first | exact rfl | assumption); omega)
    | ((with_reducible apply lm_sJ); (first | exact rfl | assumption); omega)
    | ((with_reducible apply lm_sB); (first | exact rfl | assumption); omega)
    | ((with_reducible apply lm_wA); (first | exact rfl | assumption); omega)
    | ((with_reducible apply lm_wJ); (first | exact rfl | assumption); omega)
    | ((with_reducible apply lm_wB); (first | exact rfl | assumption); omega)
    | ((with_reducible apply lm_sAl); (first | exact rfl | assumption); omega)
    | ((with_reducible apply lm_iW); decide))
    simp only [Nat.reduceDiv, Nat.reduceMod]
    rw [hR.2.2.1]
    refine lm_geT (by omega) (by omega) (by omega) ?_
    rw [show Int32.ofInt 46 = Int32.ofNat 46 from rfl, lm_K12, lm_K1, lm_K0, lm_K64, lm_K5]
    repeat (first
    | ((with_reducible apply lm_sI); exact rfl)
    | ((with_reducible apply lm_sR); exact rfl)
    | ((with_reducible apply lm_sS); exact rfl; exact rfl)
    | ((with_reducible apply lm_sL); exact rfl)
    | ((with_reducible apply lm_sP); exact rfl; exact rfl)
    | ((with_reducible apply lm_sPL); exact rfl; exact rfl)
    | ((with_reducible apply lm_sAA); exact rfl; exact rfl)
    | ((with_reducible apply lm_sA); (first | exact rfl | assumption); omega)
    | ((with_reducible apply lm_sJ); (first | exact rfl | assumption); omega)
    | ((with_reducible apply lm_sB); (first | exact rfl | assumption); omega)
    | ((with_reducible apply lm_wA); (first | exact rfl | assumption); omega)
    | ((with_reducible apply lm_wJ); (first | exact rfl | assumption); omega)
    | ((with_reducible apply lm_wB); (first | exact rfl | assumption); omega)
    | ((with_reducible apply lm_sAl); (first | exact rfl | assumption); omega)
    | ((with_reducible apply lm_iW); decide))
    refine lm_cV c2 ?_
    repeat (first
    | ((with_reducible apply lm_sI); exact rfl)
    | ((with_reducible apply lm_sR); exact rfl)
    | ((with_reducible apply lm_sS); exact rfl; exact rfl)
    | ((with_reducible apply lm_sL); exact rfl)
    | ((with_reducible apply lm_sP); exact rfl; exact rfl)
    | ((with_reducible apply lm_sPL); exact rfl; exact rfl)
    | ((with_reducible apply lm_sAA); exact rfl; exact rfl)
    | ((with_reducible apply lm_sA); (first | exact rfl | assumption); omega)
    | ((with_reducible apply lm_sJ); (first | exact rfl | assumption); omega)
    | ((with_reducible apply lm_sB); (first | exact rfl | assumption); omega)
    | ((with_reducible apply lm_wA); (first | exact rfl | assumption); omega)
    | ((with_reducible apply lm_wJ); (first | exact rfl | assumption); omega)
    | ((with_reducible apply lm_wB); (first | exact rfl | assumption); omega)
    | ((with_reducible apply lm_sAl); (first | exact rfl | assumption); omega)
    | ((with_reducible apply lm_iW); decide))
    rw [f2.1 214 (by decide) (by decide), h1]
    refine lm_cV c3 ?_
    repeat (first
    | ((with_reducible apply lm_sI); exact rfl)
    | ((with_reducible apply lm_sR); exact rfl)
    | ((with_reducible apply lm_sS); exact rfl; exact rfl)
    | ((with_reducible apply lm_sL); exact rfl)
    | ((with_reducible apply lm_sP); exact rfl; exact rfl)
    | ((with_reducible apply lm_sPL); exact rfl; exact rfl)
    | ((with_reducible apply lm_sAA); exact rfl; exact rfl)
    | ((with_reducible apply lm_sA); (first | exact rfl | assumption); omega)
    | ((with_reducible apply lm_sJ); (first | exact rfl | assumption); omega)
    | ((with_reducible apply lm_sB); (first | exact rfl | assumption); omega)
    | ((with_reducible apply lm_wA); (first | exact rfl | assumption); omega)
    | ((with_reducible apply lm_wJ); (first | exact rfl | assumption); omega)
    | ((with_reducible apply lm_wB); (first | exact rfl | assumption); omega)
    | ((with_reducible apply lm_sAl); (first | exact rfl | assumption); omega)
    | ((with_reducible apply lm_iW); decide))
    refine lm_cV c4 ?_
    repeat (first
    | ((with_reducible apply lm_sI); exact rfl)
    | ((with_reducible apply lm_sR); exact rfl)
    | ((with_reducible apply lm_sS); exact rfl; exact rfl)
    | ((with_reducible apply lm_sL); exact rfl)
    | ((with_reducible apply lm_sP); exact rfl; exact rfl)
    | ((with_reducible apply lm_sPL); exact rfl; exact rfl)
    | ((with_reducible apply lm_sAA); exact rfl; exact rfl)
    | ((with_reducible apply lm_sA); (first | exact rfl | assumption); omega)
    | ((with_reducible apply lm_sJ); (first | exact rfl | assumption); omega)
    | ((with_reducible apply lm_sB); (first | exact rfl | assumption); omega)
    | ((with_reducible apply lm_wA); (first | exact rfl | assumption); omega)
    | ((with_reducible apply lm_wJ); (first | exact rfl | assumption); omega)
    | ((with_reducible apply lm_wB); (first | exact rfl | assumption); omega)
    | ((with_reducible apply lm_sAl); (first | exact rfl | assumption); omega)
    | ((with_reducible apply lm_iW); decide))
    refine lm_cV c6 ?_
    repeat (first
    | ((with_reducible apply lm_sI); exact rfl)
    | ((with_reducible apply lm_sR); exact rfl)
    | ((with_reducible apply lm_sS); exact rfl; exact rfl)
    | ((with_reducible apply lm_sL); exact rfl)
    | ((with_reducible apply lm_sP); exact rfl; exact rfl)
    | ((with_reducible apply lm_sPL); exact rfl; exact rfl)
    | ((with_reducible apply lm_sAA); exact rfl; exact rfl)
    | ((with_reducible apply lm_sA); (first | exact rfl | assumption); omega)
    | ((with_reducible apply lm_sJ); (first | exact rfl | assumption); omega)
    | ((with_reducible apply lm_sB); (first | exact rfl | assumption); omega)
    | ((with_reducible apply lm_wA); (first | exact rfl | assumption); omega)
    | ((with_reducible apply lm_wJ); (first | exact rfl | assumption); omega)
    | ((with_reducible apply lm_wB); (first | exact rfl | assumption); omega)
    | ((with_reducible apply lm_sAl); (first | exact rfl | assumption); omega)
    | ((with_reducible apply lm_iW); decide))
    exact KK
  have u49 := fun b => lm_u49 (sc := sc) (d := d + 6) (m := m7) (n := n7) (x := x) (k := Int32.ofInt 4) b
  by_cases c : (lm_vB C Q s).1 = 256
  · rw [decide_eq_true c] at c7
    have u := u49 true
    generalize eM8 : lm_u m7 203 4 (cond true 0 (Int32.ofInt 4)) = M8 at u
    have r8 : ∀ r, r ≠ 203 → M8 r = m7 r := fun r hr => by rw [← eM8, lm_u_row hr]
    have D8 : ln_fD m n M8 n7 := G7.B.D.tr (by rw [← eM8]; exact .u4)
    obtain ⟨m9, c9, p9⟩ := lm_u89 (sc := sc) (d := d + 6) (m0 := M8) (m := M8) (n := n7) (x := x) (p := 316) (G := (lm_vB C Q s).2) rfl ⟨fun _ _ => rfl, fun c hc => by rw [r8 316 (by decide)]; exact v7 c hc⟩ (fun c hc => by have := lm_vB_b (C := C) (Q := Q) hs c; generalize (lm_vB C Q s).2 c = z at this; omega)
    obtain ⟨ma, na, ca, pa, qa⟩ := lm_u90 (sc := sc) (d := d + 5) (m := m9) (n := n7) (x := x) (p := 316) (G := fun c => (lm_vB C Q s).2 c % 8380417) rfl (fun u hu => by rw [p9.1 268 (by decide), r8 268 (by decide), e7 268 (by decide) (by decide) (by decide) (by decide) (by decide) (by decide) (by decide)]; exact hR.2.2.2.2 u hu) (fun c hc => ⟨Int.emod_nonneg _ (by decide), lm_le6 (Int.emod_lt_of_pos _ (by decide))⟩) p9.2
    have ea : ∀ r, r ≠ 316 → ma r = M8 r := fun r hr => by rw [pa.1 r hr, p9.1 r hr]
    refine Or.inl ⟨c, ma, na, ⟨fun r q1 q2 q3 q4 q5 q6 q7 => by rw [ea r q4, r8 r q1, e7 r q1 q2 q3 q4 q5 q6 q7], D8.tr ⟨fun j _ _ _ _ _ => by rw [ea 203 (by decide)], fun q _ _ _ _ _ g => qa q g⟩, by rw [ea 203 (by decide), ← eM8, lm_u_eq]; rfl, fun i hi => ?_, pa.2⟩, fun R KK => run R (lm_cI c7 ?_)⟩
    · rw [ea 330 (by decide), r8 330 (by decide), f7 330 (by decide) (by decide) (by decide) (by decide), v6 i hi]
      rfl
    · clear v7 eB v6 v5 s2 s3 hK hQ hX hM c
      repeat (first
    | ((with_reducible apply lm_sI); exact rfl)
    | ((with_reducible apply lm_sR); exact rfl)
    | ((with_reducible apply lm_sS); exact rfl; exact rfl)
    | ((with_reducible apply lm_sL); exact rfl)
    | ((with_reducible apply lm_sP); exact rfl; exact rfl)
    | ((with_reducible apply lm_sPL); exact rfl; exact rfl)
    | ((with_reducible apply lm_sAA); exact rfl; exact rfl)
    | ((with_reducible apply lm_sA); (first | exact rfl | assumption); omega)
    | ((with_reducible apply lm_sJ); (first | exact rfl | assumption); omega)
    | ((with_reducible apply lm_sB); (first | exact rfl | assumption); omega)
    | ((with_reducible apply lm_wA); (first | exact rfl | assumption); omega)
    | ((with_reducible apply lm_wJ); (first | exact rfl | assumption); omega)
    | ((with_reducible apply lm_wB); (first | exact rfl | assumption); omega)
    | ((with_reducible apply lm_sAl); (first | exact rfl | assumption); omega)
    | ((with_reducible apply lm_iW); decide))
      refine lm_cI u ?_
      refine lm_iT (show ¬ (1 : Int32) = 0 by decide) ?_
      repeat (first
    | ((with_reducible apply lm_sI); exact rfl)
    | ((with_reducible apply lm_sR); exact rfl)
    | ((with_reducible apply lm_sS); exact rfl; exact rfl)
    | ((with_reducible apply lm_sL); exact rfl)
    | ((with_reducible apply lm_sP); exact rfl; exact rfl)
    | ((with_reducible apply lm_sPL); exact rfl; exact rfl)
    | ((with_reducible apply lm_sAA); exact rfl; exact rfl)
    | ((with_reducible apply lm_sA); (first | exact rfl | assumption); omega)
    | ((with_reducible apply lm_sJ); (first | exact rfl | assumption); omega)
    | ((with_reducible apply lm_sB); (first | exact rfl | assumption); omega)
    | ((with_reducible apply lm_wA); (first | exact rfl | assumption); omega)
    | ((with_reducible apply lm_wJ); (first | exact rfl | assumption); omega)
    | ((with_reducible apply lm_wB); (first | exact rfl | assumption); omega)
    | ((with_reducible apply lm_sAl); (first | exact rfl | assumption); omega)
    | ((with_reducible apply lm_iW); decide))
      refine lm_cV c9 ?_
      repeat (first
    | ((with_reducible apply lm_sI); exact rfl)
    | ((with_reducible apply lm_sR); exact rfl)
    | ((with_reducible apply lm_sS); exact rfl; exact rfl)
    | ((with_reducible apply lm_sL); exact rfl)
    | ((with_reducible apply lm_sP); exact rfl; exact rfl)
    | ((with_reducible apply lm_sPL); exact rfl; exact rfl)
    | ((with_reducible apply lm_sAA); exact rfl; exact rfl)
    | ((with_reducible apply lm_sA); (first | exact rfl | assumption); omega)
    | ((with_reducible apply lm_sJ); (first | exact rfl | assumption); omega)
    | ((with_reducible apply lm_sB); (first | exact rfl | assumption); omega)
    | ((with_reducible apply lm_wA); (first | exact rfl | assumption); omega)
    | ((with_reducible apply lm_wJ); (first | exact rfl | assumption); omega)
    | ((with_reducible apply lm_wB); (first | exact rfl | assumption); omega)
    | ((with_reducible apply lm_sAl); (first | exact rfl | assumption); omega)
    | ((with_reducible apply lm_iW); decide))
      exact lm_cV ca KK
  · rw [decide_eq_false c] at c7
    refine Or.inr ⟨c, lm_u m7 203 4 (Int32.ofInt 4), n7, ⟨fun r q1 q2 q3 q4 q5 q6 q7 => by rw [lm_u_row q1, e7 r q1 q2 q3 q4 q5 q6 q7], G7.B.D.tr .u4, lm_u_eq⟩, run _ (lm_cI c7 ?_)⟩
    repeat (first
    | ((with_reducible apply lm_sI); exact rfl)
    | ((with_reducible apply lm_sR); exact rfl)
    | ((with_reducible apply lm_sS); exact rfl; exact rfl)
    | ((with_reducible apply lm_sL); exact rfl)
    | ((with_reducible apply lm_sP); exact rfl; exact rfl)
    | ((with_reducible apply lm_sPL); exact rfl; exact rfl)
    | ((with_reducible apply lm_sAA); exact rfl; exact rfl)
    | ((with_reducible apply lm_sA); (first | exact rfl | assumption); omega)
    | ((with_reducible apply lm_sJ); (first | exact rfl | assumption); omega)
    | ((with_reducible apply lm_sB); (first | exact rfl | assumption); omega)
    | ((with_reducible apply lm_wA); (first | exact rfl | assumption); omega)
    | ((with_reducible apply lm_wJ); (first | exact rfl | assumption); omega)
    | ((with_reducible apply lm_wB); (first | exact rfl | assumption); omega)
    | ((with_reducible apply lm_sAl); (first | exact rfl | assumption); omega)
    | ((with_reducible apply lm_iW); decide))
    refine lm_cI (u49 false) ?_
    refine lm_iF (show ¬ ¬ (0 : Int32) = 0 by decide) ?_
    exact lm_iW (by decide) rfl
/-- the challenge anew; the end -/
theorem lm_l32i {V : Nat → Int32} (hs : s ≤ 2) (hR : lm_RD C s m n) (hE : lm_RE s m) (hF : ∀ i, i < lm_dk s → ∀ c, c < 256 → m (270 + (30 + i)) c = Int32.ofInt (lm_vu C K Q s i c)) (hV : ∀ i, i < 64 → lm_b8 (m 330 i) = lm_b8 (V i)) (hQ : ∀ u, u < lm_dps s → lm_b8 (m 211 u) = lm_b8 (Q u)) : ∃ m' n', lm_rn sc (d + 7) lm_m32.2.2.2.2.1 (lm_reg lm_m32.2.2.2.2.2) (406, [(0, .ref 203), (4, .int (Int32.ofNat (lm_dk s)))], []) (lm_w m n x) = some (.ok (some (.int (lm_z (lm_ev (fun t => lm_b8 (lm_vC C K Q V s t)) (fun t => lm_b8 (Q t)) (lm_dsz s) 0)))), lm_w m' n' x) ∧ (∀ r, r ≠ 203 → r ≠ 212 → r ≠ 214 → r ≠ 227 → r ≠ 327 → r ≠ 332 → m' r = m r) ∧ lm_fB m n m' n' ∧ (∀ j, j ≠ 6 → m' 214 j = m 214 j) ∧ m' 214 6 = Int32.ofNat (lm_dsz s) ∧ ∀ t, t < lm_dsz s → lm_b8 (m' 212 t) = lm_b8 (lm_vC C K Q V s t) := by
  have hkl := lm_dkl hs
  have hpar := lm_dpar s hs
  have hps := lm_dps_e s
  obtain ⟨m1, n1, c1, f1, g1, v1⟩ := lm_u105 (sc := sc) (C := C) (d := d + 1) (m := m) (n := n) (x := x) (s := s) (b0 := 30) (q := 332) (v := 64) (F := lm_vu C K Q s) (V := V) hs (by decide) hR hE rfl (by decide) (by omega) (by decide) (fun i hi c hc => ⟨hF i hi c hc, lm_uh_b hs ln_vw_b⟩) hV
  have eC : ∀ t, lm_vC C K Q V s t = lm_Hm C 12 (lm_cG V (lm_vu C K Q s) (lm_hb s)) (64 + 32 * lm_hb s * lm_dk s) t := fun t => by unfold lm_vC; rfl
  have v1' : ∀ t, t < lm_dsz s → m1 332 t = lm_vC C K Q V s t := fun t ht => by rw [eC]; exact v1 t ht
  clear v1
  generalize lm_vC C K Q V s = vC at *
  have u75 := lm_u75 (sc := sc) (d := d + 6) (m := m1) (n := n1) (x := x) (q := 332) (p := 212) (v := 64) (w := 65536) (a := 0) (b := 0) (l := lm_dsz s) rfl rfl (by decide) (by omega) (by omega) (by decide) (by decide)
  generalize eM2 : lm_fil m1 212 0 (0 + lm_dsz s) (fun i => lm_b8 (m1 332 (0 + (i - 0)))) = M2 at u75
  have r2 : ∀ r, r ≠ 212 → M2 r = m1 r := fun r hr => by rw [← eM2, lm_fl_row hr]
  have v2 : ∀ t, t < lm_dsz s → lm_b8 (M2 212 t) = lm_b8 (vC t) := fun t ht => by rw [← eM2, lm_fl_in (by omega), lm_b8b8, Nat.sub_zero, Nat.zero_add, v1' t ht]
  generalize eM3 : lm_u M2 214 6 (Int32.ofNat (lm_dsz s)) = M3
  have r3 : ∀ r, r ≠ 214 → M3 r = M2 r := fun r hr => by rw [← eM3, lm_u_row hr]
  have u80 := lm_u80 (sc := sc) (d := d + 6) (m := M3) (n := n1) (x := x) (p := 332) (q := 211) (s := 64) (r := 65536) (a := 0) (b := 0) (l := lm_dsz s) rfl rfl (by omega) (by omega)
  have eEv : lm_ev (fun t => lm_b8 (M3 332 (0 + t))) (fun t => lm_b8 (M3 211 (0 + t))) (lm_dsz s) 0 = lm_ev (fun t => lm_b8 (vC t)) (fun t => lm_b8 (Q t)) (lm_dsz s) 0 := by
    have a1 : ∀ t, t < lm_dsz s → M3 332 t = vC t := fun t ht => by rw [r3 332 (by decide), r2 332 (by decide), v1' t ht]
    have a2 : ∀ t, t < lm_dsz s → lm_b8 (M3 211 t) = lm_b8 (Q t) := fun t ht => by rw [r3 211 (by decide), r2 211 (by decide), f1 211 (by decide) (by decide) (by decide) (by decide)]; exact hQ t (by omega)
    rw [Bool.eq_iff_iff, lm_ev_t, lm_ev_t]
    constructor
    · intro q t t1
      have := q t t1
      rw [Nat.zero_add, Nat.zero_add, a1 t t1, a2 t t1] at this
      rw [Nat.zero_add]
      exact this
    · intro q t t1
      have := q t t1
      rw [Nat.zero_add] at this
      rw [Nat.zero_add, Nat.zero_add, a1 t t1, a2 t t1]
      exact this
  rw [eEv] at u80
  have e203 : M2 203 = m1 203 := r2 203 (by decide)
  have E1 : lm_RE s m1 := hE.of fun j a b => g1.1 j (by omega) (by omega) (by omega) (by omega)
  refine ⟨M3, n1, ?_, fun r q1 q2 q3 q4 q5 q6 => by rw [r3 r q3, r2 r q2, f1 r q1 q4 q5 q6], g1.tr (.of (by rw [r3 203 (by decide), e203])), fun j hj => by rw [← eM3, lm_u_ne (fun g => hj g.2), r2 214 (by decide), f1 214 (by decide) (by decide) (by decide) (by decide)], by rw [← eM3, lm_u_eq], fun t ht => by rw [r3 212 (by decide)]; exact v2 t ht⟩
  clear hF hV hQ v1' v2 eEv eC
  generalize lm_ev (fun t => lm_b8 (vC t)) (fun t => lm_b8 (Q t)) (lm_dsz s) 0 = b at *
  refine lm_e32_406 ?_
  unfold lm_q32_406
  repeat (first
    | ((with_reducible apply lm_sI); exact rfl)
    | ((with_reducible apply lm_sR); exact rfl)
    | ((with_reducible apply lm_sS); exact rfl; exact rfl)
    | ((with_reducible apply lm_sL); exact rfl)
    | ((with_reducible apply lm_sP); exact rfl; exact rfl)
    | ((with_reducible apply lm_sPL); exact rfl; exact rfl)
    | ((with_reducible apply lm_sAA); exact rfl; exact rfl)
    | ((with_reducible apply lm_sA); (first | exact rfl | assumption); omega)
    | ((with_reducible apply lm_sJ); (first | exact rfl | assumption); omega)
    | ((with_reducible apply lm_sB); (first | exact rfl | assumption); omega)
    | ((with_reducible apply lm_wA); (first | exact rfl | assumption); omega)
    | ((with_reducible apply lm_wJ); (first | exact rfl | assumption); omega)
    | ((with_reducible apply lm_wB); (first | exact rfl | assumption); omega)
    | ((with_reducible apply lm_sAl); (first | exact rfl | assumption); omega)
    | ((with_reducible apply lm_iW); decide))
  simp only [Nat.reduceDiv, Nat.reduceMod]
  rw [hR.2.1]
  refine lm_geT (by omega) (by omega) (by omega) ?_
  rw [show Int32.ofInt 30 = Int32.ofNat 30 from rfl, show Int32.ofInt 6 = Int32.ofNat 6 from rfl, lm_K0, lm_K5]
  repeat (first
    | ((with_reducible apply lm_sI); exact rfl)
    | ((with_reducible apply lm_sR); exact rfl)
    | ((with_reducible apply lm_sS); exact rfl; exact rfl)
    | ((with_reducible apply lm_sL); exact rfl)
    | ((with_reducible apply lm_sP); exact rfl; exact rfl)
    | ((with_reducible apply lm_sPL); exact rfl; exact rfl)
    | ((with_reducible apply lm_sAA); exact rfl; exact rfl)
    | ((with_reducible apply lm_sA); (first | exact rfl | assumption); omega)
    | ((with_reducible apply lm_sJ); (first | exact rfl | assumption); omega)
    | ((with_reducible apply lm_sB); (first | exact rfl | assumption); omega)
    | ((with_reducible apply lm_wA); (first | exact rfl | assumption); omega)
    | ((with_reducible apply lm_wJ); (first | exact rfl | assumption); omega)
    | ((with_reducible apply lm_wB); (first | exact rfl | assumption); omega)
    | ((with_reducible apply lm_sAl); (first | exact rfl | assumption); omega)
    | ((with_reducible apply lm_iW); decide))
  refine lm_cV c1 ?_
  repeat (first
    | ((with_reducible apply lm_sI); exact rfl)
    | ((with_reducible apply lm_sR); exact rfl)
    | ((with_reducible apply lm_sS); exact rfl; exact rfl)
    | ((with_reducible apply lm_sL); exact rfl)
    | ((with_reducible apply lm_sP); exact rfl; exact rfl)
    | ((with_reducible apply lm_sPL); exact rfl; exact rfl)
    | ((with_reducible apply lm_sAA); exact rfl; exact rfl)
    | ((with_reducible apply lm_sA); (first | exact rfl | assumption); omega)
    | ((with_reducible apply lm_sJ); (first | exact rfl | assumption); omega)
    | ((with_reducible apply lm_sB); (first | exact rfl | assumption); omega)
    | ((with_reducible apply lm_wA); (first | exact rfl | assumption); omega)
    | ((with_reducible apply lm_wJ); (first | exact rfl | assumption); omega)
    | ((with_reducible apply lm_wB); (first | exact rfl | assumption); omega)
    | ((with_reducible apply lm_sAl); (first | exact rfl | assumption); omega)
    | ((with_reducible apply lm_iW); decide))
  simp only [Nat.reduceDiv, Nat.reduceMod]
  rw [E1.2.2.2.2.1]
  refine lm_cV u75 ?_
  repeat (first
    | ((with_reducible apply lm_sI); exact rfl)
    | ((with_reducible apply lm_sR); exact rfl)
    | ((with_reducible apply lm_sS); exact rfl; exact rfl)
    | ((with_reducible apply lm_sL); exact rfl)
    | ((with_reducible apply lm_sP); exact rfl; exact rfl)
    | ((with_reducible apply lm_sPL); exact rfl; exact rfl)
    | ((with_reducible apply lm_sAA); exact rfl; exact rfl)
    | ((with_reducible apply lm_sA); (first | exact rfl | assumption); omega)
    | ((with_reducible apply lm_sJ); (first | exact rfl | assumption); omega)
    | ((with_reducible apply lm_sB); (first | exact rfl | assumption); omega)
    | ((with_reducible apply lm_wA); (first | exact rfl | assumption); omega)
    | ((with_reducible apply lm_wJ); (first | exact rfl | assumption); omega)
    | ((with_reducible apply lm_wB); (first | exact rfl | assumption); omega)
    | ((with_reducible apply lm_sAl); (first | exact rfl | assumption); omega)
    | ((with_reducible apply lm_iW); decide))
  simp only [Nat.reduceDiv, Nat.reduceMod]
  rw [e203, E1.2.2.2.2.1, eM3]
  rw [r3 203 (by decide), e203, E1.2.2.2.2.1]
  refine lm_cI u80 ?_
  cases b
  · rfl
  · rfl
end LMRE
