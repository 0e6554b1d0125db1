/-! ===== what is signed: the class's prefix ===== -/
theorem lm_ls_eq' (ws : List Int32) : ws = (List.range ws.length).map (fun i => ws.getD i 0) := by
  apply List.ext_getElem?
  intro i
  by_cases h : i < ws.length
  · rw [List.getElem?_map, List.getElem?_range h, List.getElem?_eq_getElem h]
    show some _ = some (ws.getD i 0)
    rw [List.getD_eq_getElem?_getD, List.getElem?_eq_getElem h]
    rfl
  · rw [List.getElem?_eq_none (by omega), List.getElem?_eq_none (by rw [List.length_map, List.length_range]; omega)]
/-- a static array of bytes is copied -/
theorem lm_sCpB {β : Type} {sc : lm_H} {m : lm_MI} {n : lm_ML} {x : lm_H × Nat × Nat} {r : Option (Except Nat β × lm_S)} {q a : Nat} {f : Unit → lm_M β} {p b j w : Nat} {ws : List Int32} (h1 : sc[p]? = some (.inl (1, ws))) (h2 : lm_arW 362 [] q = some (1, w)) (hl : ws.length ≤ 1000) (he : ∀ i, i < ws.length → lm_b8 (ws.getD i 0) = ws.getD i 0) (ha : a + j ≤ ws.length) (hb : b + j ≤ w) (k : f () (lm_w (lm_fil m q b (b + j) (fun i => ws.getD (i - b + a) 0)) n x) = r) : lm_bind (lm_copy sc (lm_B + p) (Int32.ofNat a) q (Int32.ofNat b) (Int32.ofNat j)) f (lm_w m n x) = r := by
  have g2 := lm_ar_le h2
  have e2 := lm_shp_ar h2
  rw [← k]
  refine lm_bd_ok ?_
  unfold lm_copy lm_w lm_W
  dsimp only
  rw [if_pos ⟨lm_q_lt e2, (lm_nn (a := a) (by omega)).1, (lm_nn (a := b) (by omega)).1, (lm_nn (a := j) (by omega)).1⟩, lm_cell_s, h1, lm_mk_get e2]
  show (if 1 = 1 ∧ (1 = 0 ∨ 1 = 1) ∧ _ ≤ ws.length ∧ _ ≤ ((List.range w).map _).length then some (Except.ok (), (_, _)) else none) = _
  rw [(lm_nn (a := a) (by omega)).2, (lm_nn (a := b) (by omega)).2, (lm_nn (a := j) (by omega)).2, lm_rg_len, if_pos ⟨rfl, Or.inr rfl, ha, hb⟩]
  have e3 : lm_lay ((List.range w).map fun i => lm_elm 1 (m q i)) ws a b j = (List.range w).map fun i => if b ≤ i ∧ i < b + j then ws.getD (i - b + a) 0 else lm_elm 1 (m q i) := by
    conv => lhs; rw [lm_ls_eq' ws]
    exact lm_rg_lay _ _ ha hb
  rw [lm_mk_set (m' := lm_fil m q b (b + j) (fun i => ws.getD (i - b + a) 0)) (n' := n) e2 ?_ (fun p hp => lm_fl_row hp) (fun _ _ => rfl)]
  refine Eq.trans ?_ (congrArg (fun l => (Sum.inl (1, l) : lm_C)) e3.symm)
  show (Sum.inl (1, _) : lm_C) = _
  congr 3
  funext i
  show lm_b8 (if q = q ∧ b ≤ i ∧ i < b + j then _ else m q i) = if b ≤ i ∧ i < b + j then _ else lm_b8 (m q i)
  by_cases e : b ≤ i ∧ i < b + j
  · rw [if_pos ⟨rfl, e⟩, if_pos e]
    exact he _ (by omega)
  · rw [if_neg (fun g => e g.2), if_neg e]
theorem lm_sAlS {β : Type} {sc : lm_H} {σ : lm_S} {p : Nat} {ws : List Int32} {f : Int32 → lm_M β} {r : Option (Except Nat β × lm_S)} (h1 : sc[p]? = some (.inl (1, ws))) (k : f (Int32.ofNat ws.length) σ = r) : lm_bind (lm_alen sc (lm_B + p)) f σ = r := by
  rw [← k]
  refine lm_bd_ok ?_
  unfold lm_alen
  rw [lm_cell_s, h1]
  rfl
def ln_ow : List Int32 := [6, 9, 96, -122, 72, 1, 101, 3, 4, 2]
theorem ln_ow_b : ∀ i, i < 10 → lm_b8 (ln_ow.getD i 0) = ln_ow.getD i 0 := by decide
/-- what is put ahead of the message (or stands in its place): kind 1 pure, 1 + k by the hash k -/
def lm_sp (X : Nat → Int32) (xl kk : Nat) (D : Nat → Int32) (t : Nat) : Int32 := if t = 0 then (if kk = 1 then 0 else 1) else if t = 1 then lm_b8 (Int32.ofNat xl) else if t < 2 + xl then lm_b8 (X (t - 2)) else if t < 12 + xl then ln_ow.getD (t - (2 + xl)) 0 else if t = 12 + xl then lm_b8 (Int32.ofNat (kk - 1)) else lm_b8 (D (t - (13 + xl)))
def lm_spl (kk xl : Nat) : Nat := if kk = 0 then 0 else if kk = 1 then 2 + xl else 13 + xl + lm_dg (kk - 1)
def lm_sgd (C : lm_CX) (kk : Nat) (Mg : Nat → Int32) (ml : Nat) : Nat → Int32 := lm_Hm C (kk - 1) (fun t => lm_b8 (Mg t)) ml
def lm_sgn (C : lm_CX) (kk : Nat) (X : Nat → Int32) (xl : Nat) (Mg : Nat → Int32) (ml t : Nat) : Int32 := if t < lm_spl kk xl then lm_sp X xl kk (lm_sgd C kk Mg ml) t else lm_b8 (Mg (t - lm_spl kk xl))
def lm_sgl (kk xl ml : Nat) : Nat := lm_spl kk xl + (if kk ≤ 1 then ml else 0)
theorem lm_spl_le {kk xl : Nat} (h : kk = 0 ∨ xl ≤ 255) : lm_spl kk xl ≤ 332 := by
  have := lm_dg_le (kk - 1)
  unfold lm_spl
  split
  · omega
  · split <;> omega
/-- the kind, as it is given -/
def ln_kd (kk : Nat) : Int32 := Int32.ofInt ((kk : Int) - 1)
theorem ln_kd_of {w : Int32} (h : Int32.ofInt (-1) ≤ w ∧ w ≤ Int32.ofInt 12) : ∃ kk, kk ≤ 13 ∧ w = ln_kd kk := by
  obtain ⟨h1, h2⟩ := h
  rw [Int32.le_iff_toInt_le, lm_iT0 (by decide) (by decide)] at h1 h2
  refine ⟨(w.toInt + 1).toNat, by omega, ?_⟩
  unfold ln_kd
  rw [Int.toNat_of_nonneg (by omega), show w.toInt + 1 - 1 = w.toInt by omega, Int32.ofInt_toInt]
theorem ln_kd_n {kk : Nat} (h : 1 ≤ kk) : ln_kd kk = Int32.ofNat (kk - 1) := by
  unfold ln_kd
  rw [lm_oN, show ((kk - 1 : Nat) : Int) = (kk : Int) - 1 by omega]
section LMSG2
variable {xs : List Int32} {sc : lm_H} {C : lm_CX} {d kk xl ml : Nat} {m : lm_MI} {n : lm_ML} {x : lm_H × Nat × Nat} {G : Nat → Int32} {k L : Nat}
/-- canBeMade -/
theorem ln_u168 (hk : kk ≤ 13) (hx : m 34 1 = Int32.ofNat xl) (hxl : xl ≤ 65536) : lm_cal sc (d + 1) 168 [.ref 42, .int (ln_kd kk)] (lm_w m n x) = some (.ok (some (.int (lm_z (decide (kk = 0 ∨ xl ≤ 255))))), lm_w m n x) := by
  have e17 : lm_rn sc d lm_m168.2.2.2.2.1 (lm_reg lm_m168.2.2.2.2.2) (17, [], []) (lm_w m n x) = some (.ok (some (.int (lm_z true))), lm_w m n x) := by
    refine lm_e168_17 ?_
    unfold lm_q168_17
    exact lm_iW (by decide) rfl
  refine lm_cal_of (Y := lm_m168) rfl rfl (lm_e168_0 ?_)
  unfold lm_q168_0
  by_cases c0 : kk = 0
  · rw [decide_eq_true (Or.inl c0)]
    unfold ln_kd
    refine lm_zltT (b := 0) (by omega) (by omega) (by omega) ?_
    exact e17
  · unfold ln_kd
    refine lm_zltF (b := 0) (by omega) (by omega) (by omega) ?_
    repeat (first
    | ((with_reducible apply lm_sI); exact rfl)
    | ((with_reducible apply lm_sR); exact rfl)
    | ((with_reducible apply lm_sS); exact rfl; exact rfl)
    | ((with_reducible apply lm_sL); exact rfl)
    | ((with_reducible apply lm_sP); exact rfl; exact rfl)
    | ((with_reducible apply lm_sPL); exact rfl; exact rfl)
    | ((with_reducible apply lm_sAA); exact rfl; exact rfl)
    | ((with_reducible apply lm_sA); (first | exact rfl | assumption); omega)
    | ((with_reducible apply lm_sJ); (first | exact rfl | assumption); omega)
    | ((with_reducible apply lm_sB); (first | exact rfl | assumption); omega)
    | ((with_reducible apply lm_wA); (first | exact rfl | assumption); omega)
    | ((with_reducible apply lm_wJ); (first | exact rfl | assumption); omega)
    | ((with_reducible apply lm_wB); (first | exact rfl | assumption); omega)
    | ((with_reducible apply lm_sAl); (first | exact rfl | assumption); omega)
    | ((with_reducible apply lm_iW); decide))
    simp only [Nat.reduceDiv, Nat.reduceMod]
    rw [hx, lm_K255]
    by_cases c1 : xl ≤ 255
    · rw [decide_eq_true (Or.inr c1)]
      refine lm_gtF (by omega) (by omega) (by omega) ?_
      exact e17
    · rw [decide_eq_false (by omega)]
      refine lm_gtT (by omega) (by omega) (by omega) ?_
      exact lm_iW (by decide) rfl
/-- addHash -/
theorem lm_u241 (hC : lm_Cok xs C) (hr : ln_rt m) (h1 : 2 ≤ kk) (h2 : kk ≤ 13) (hxl : xl ≤ 255) (h4 : m 42 4 = Int32.ofNat (2 + xl)) (hm : m 32 1 = Int32.ofNat ml) (hml : ml ≤ 65536) : ∃ m' n', lm_cal (lm_sc xs) (d + 5) 241 [.ref 42, .int (Int32.ofNat (kk - 1))] (lm_w m n x) = some (.ok none, lm_w m' n' x) ∧ (∀ r, (r < 5 ∨ 22 < r) → r ≠ 42 → r ≠ 43 → m' r = m r) ∧ lm_fN m n m' n' ∧ m' 42 4 = Int32.ofNat (13 + xl + lm_dg (kk - 1)) ∧ (∀ j, j ≠ 4 → m' 42 j = m 42 j) ∧ (∀ t, t < 2 + xl → m' 43 t = m 43 t) ∧ ∀ t, 2 + xl ≤ t → t < 13 + xl + lm_dg (kk - 1) → lm_b8 (m' 43 t) = lm_sp (m 35) xl kk (lm_sgd C kk (m 33) ml) t := by
  have hdg := lm_dg_le (kk - 1)
  generalize eM1 : lm_fil m 43 (2 + xl) (2 + xl + 10) (fun i => ln_ow.getD (i - (2 + xl) + 0) 0) = M1
  have r1 : ∀ r, r ≠ 43 → M1 r = m r := fun r hr => by rw [← eM1, lm_fl_row hr]
  generalize eM2 : lm_u (lm_u M1 42 4 (Int32.ofNat (2 + xl + 10))) 42 4 (Int32.ofNat (2 + xl + 10 + 1)) = M2
  have r2 : ∀ r, r ≠ 42 → M2 r = M1 r := fun r hr => by rw [← eM2, lm_u_row hr, lm_u_row hr]
  have g2 : ∀ j, j ≠ 4 → M2 42 j = m 42 j := fun j hj => by rw [← eM2, lm_u_ne (fun g => hj g.2), lm_u_ne (fun g => hj g.2), r1 42 (by decide)]
  generalize eM3 : lm_u M2 43 (2 + xl + 10) (lm_b8 (Int32.ofNat (kk - 1))) = M3
  have r3 : ∀ r, r ≠ 43 → M3 r = M2 r := fun r hr => by rw [← eM3, lm_u_row hr]
  have fr3 : ∀ r, r ≠ 42 → r ≠ 43 → M3 r = m r := fun r q1 q2 => by rw [r3 r q2, r2 r q1, r1 r q2]
  have hr3 : ln_rt M3 := ⟨by rw [fr3 11 (by decide) (by decide)]; exact hr.1, by rw [fr3 17 (by decide) (by decide)]; exact hr.2⟩
  obtain ⟨m4, n4, k4, s4, f4⟩ := lm_cS (xs := xs) (d := d + 1) (x := x) (m := M3) (n := n) (k := kk - 1) (G := fun t => lm_b8 (m 33 t)) hC hr3 (by omega) (by omega)
  obtain ⟨m5, n5, k5, s5, f5⟩ := lm_cA (xs := xs) (d := d) (x := x) (k := kk - 1) (q := 33) (v := 65536) (a := 0) (l := ml) (L := 0) (G := fun t => lm_b8 (m 33 t)) hC (by omega) (by omega) (by decide) rfl (by omega) (by decide) (fun t ht => by
    rw [f4.1 33 (by decide), fr3 33 (by decide) (by decide)]) s4
  rw [Nat.zero_add] at s5
  obtain ⟨m6, n6, k6, f6⟩ := lm_cF (xs := xs) (d := d) (x := x) (k := kk - 1) (q := 43) (v := 332) (a := 2 + xl + 10 + 1) (l := lm_dg (kk - 1)) hC (by omega) (by omega) (by decide) rfl (by omega) (by decide) (lm_dg_k (by omega) (by omega)) s5
  have fC := f4.tr (f5.tr f6)
  generalize eM7 : lm_fil m6 43 (2 + xl + 10 + 1) (2 + xl + 10 + 1 + lm_dg (kk - 1)) (fun i => lm_Hm C (kk - 1) (fun t => lm_b8 (m 33 t)) ml (i - (2 + xl + 10 + 1))) = M7 at k6
  have r7 : ∀ r, r ≠ 43 → M7 r = m6 r := fun r hr => by rw [← eM7, lm_fl_row hr]
  have e42 : ∀ j, M7 42 j = M2 42 j := fun j => by rw [r7 42 (by decide), fC.1 42 (by decide), r3 42 (by decide)]
  have e424 : M2 42 4 = Int32.ofNat (2 + xl + 10 + 1) := by rw [← eM2, lm_u_eq]
  refine ⟨lm_u M7 42 4 (Int32.ofNat (2 + xl + 10 + 1 + lm_dg (kk - 1))), n6, ?_, fun r q1 q2 q3 => by rw [lm_u_row q2, r7 r q3, fC.1 r q1, fr3 r q2 q3], ?_, by rw [lm_u_eq]; congr 1; omega, fun j hj => by rw [lm_u_ne (fun g => hj g.2), e42, g2 j hj], fun t ht => ?_, fun t t1 t2 => ?_⟩
  · refine lm_cal_of (Y := lm_m241) rfl rfl (lm_e241_0 ?_)
    unfold lm_q241_0
    rw [lm_K0]
    repeat (first
    | ((with_reducible apply lm_sI); exact rfl)
    | ((with_reducible apply lm_sR); exact rfl)
    | ((with_reducible apply lm_sS); exact rfl; exact rfl)
    | ((with_reducible apply lm_sL); exact rfl)
    | ((with_reducible apply lm_sP); exact rfl; exact rfl)
    | ((with_reducible apply lm_sPL); exact rfl; exact rfl)
    | ((with_reducible apply lm_sAA); exact rfl; exact rfl)
    | ((with_reducible apply lm_sA); (first | exact rfl | assumption); omega)
    | ((with_reducible apply lm_sJ); (first | exact rfl | assumption); omega)
    | ((with_reducible apply lm_sB); (first | exact rfl | assumption); omega)
    | ((with_reducible apply lm_wA); (first | exact rfl | assumption); omega)
    | ((with_reducible apply lm_wJ); (first | exact rfl | assumption); omega)
    | ((with_reducible apply lm_wB); (first | exact rfl | assumption); omega)
    | ((with_reducible apply lm_sAl); (first | exact rfl | assumption); omega)
    | ((with_reducible apply lm_iW); decide))
    simp only [Nat.reduceDiv, Nat.reduceMod]
    rw [h4]
    refine lm_sAlS (ws := ln_ow) rfl ?_
    refine lm_sCpB (ws := ln_ow) rfl rfl (by decide) ln_ow_b (by decide) (show 2 + xl + 10 ≤ 332 by omega) ?_
    rw [show ln_ow.length = 10 from rfl, eM1]
    repeat (first
    | ((with_reducible apply lm_sI); exact rfl)
    | ((with_reducible apply lm_sR); exact rfl)
    | ((with_reducible apply lm_sS); exact rfl; exact rfl)
    | ((with_reducible apply lm_sL); exact rfl)
    | ((with_reducible apply lm_sP); exact rfl; exact rfl)
    | ((with_reducible apply lm_sPL); exact rfl; exact rfl)
    | ((with_reducible apply lm_sAA); exact rfl; exact rfl)
    | ((with_reducible apply lm_sA); (first | exact rfl | assumption); omega)
    | ((with_reducible apply lm_sJ); (first | exact rfl | assumption); omega)
    | ((with_reducible apply lm_sB); (first | exact rfl | assumption); omega)
    | ((with_reducible apply lm_wA); (first | exact rfl | assumption); omega)
    | ((with_reducible apply lm_wJ); (first | exact rfl | assumption); omega)
    | ((with_reducible apply lm_wB); (first | exact rfl | assumption); omega)
    | ((with_reducible apply lm_sAl); (first | exact rfl | assumption); omega)
    | ((with_reducible apply lm_iW); decide))
    simp only [Nat.reduceDiv, Nat.reduceMod]
    refine lm_sAlS (ws := ln_ow) rfl ?_
    rw [r1 42 (by decide), h4, show ln_ow.length = 10 from rfl, lm_oo]
    repeat (first
    | ((with_reducible apply lm_sI); exact rfl)
    | ((with_reducible apply lm_sR); exact rfl)
    | ((with_reducible apply lm_sS); exact rfl; exact rfl)
    | ((with_reducible apply lm_sL); exact rfl)
    | ((with_reducible apply lm_sP); exact rfl; exact rfl)
    | ((with_reducible apply lm_sPL); exact rfl; exact rfl)
    | ((with_reducible apply lm_sAA); exact rfl; exact rfl)
    | ((with_reducible apply lm_sA); (first | exact rfl | assumption); omega)
    | ((with_reducible apply lm_sJ); (first | exact rfl | assumption); omega)
    | ((with_reducible apply lm_sB); (first | exact rfl | assumption); omega)
    | ((with_reducible apply lm_wA); (first | exact rfl | assumption); omega)
    | ((with_reducible apply lm_wJ); (first | exact rfl | assumption); omega)
    | ((with_reducible apply lm_wB); (first | exact rfl | assumption); omega)
    | ((with_reducible apply lm_sAl); (first | exact rfl | assumption); omega)
    | ((with_reducible apply lm_iW); decide))
    simp only [Nat.reduceDiv, Nat.reduceMod]
    rw [lm_u_eq, lm_K1, lm_oo]
    repeat (first
    | ((with_reducible apply lm_sI); exact rfl)
    | ((with_reducible apply lm_sR); exact rfl)
    | ((with_reducible apply lm_sS); exact rfl; exact rfl)
    | ((with_reducible apply lm_sL); exact rfl)
    | ((with_reducible apply lm_sP); exact rfl; exact rfl)
    | ((with_reducible apply lm_sPL); exact rfl; exact rfl)
    | ((with_reducible apply lm_sAA); exact rfl; exact rfl)
    | ((with_reducible apply lm_sA); (first | exact rfl | assumption); omega)
    | ((with_reducible apply lm_sJ); (first | exact rfl | assumption); omega)
    | ((with_reducible apply lm_sB); (first | exact rfl | assumption); omega)
    | ((with_reducible apply lm_wA); (first | exact rfl | assumption); omega)
    | ((with_reducible apply lm_wJ); (first | exact rfl | assumption); omega)
    | ((with_reducible apply lm_wB); (first | exact rfl | assumption); omega)
    | ((with_reducible apply lm_sAl); (first | exact rfl | assumption); omega)
    | ((with_reducible apply lm_iW); decide))
    simp only [Nat.reduceDiv, Nat.reduceMod]
    rw [eM2]
    repeat (first
    | ((with_reducible apply lm_sI); exact rfl)
    | ((with_reducible apply lm_sR); exact rfl)
    | ((with_reducible apply lm_sS); exact rfl; exact rfl)
    | ((with_reducible apply lm_sL); exact rfl)
    | ((with_reducible apply lm_sP); exact rfl; exact rfl)
    | ((with_reducible apply lm_sPL); exact rfl; exact rfl)
    | ((with_reducible apply lm_sAA); exact rfl; exact rfl)
    | ((with_reducible apply lm_sA); (first | exact rfl | assumption); omega)
    | ((with_reducible apply lm_sJ); (first | exact rfl | assumption); omega)
    | ((with_reducible apply lm_sB); (first | exact rfl | assumption); omega)
    | ((with_reducible apply lm_wA); (first | exact rfl | assumption); omega)
    | ((with_reducible apply lm_wJ); (first | exact rfl | assumption); omega)
    | ((with_reducible apply lm_wB); (first | exact rfl | assumption); omega)
    | ((with_reducible apply lm_sAl); (first | exact rfl | assumption); omega)
    | ((with_reducible apply lm_iW); decide))
    rw [eM3]
    refine lm_cR k4 ?_
    repeat (first
    | ((with_reducible apply lm_sI); exact rfl)
    | ((with_reducible apply lm_sR); exact rfl)
    | ((with_reducible apply lm_sS); exact rfl; exact rfl)
    | ((with_reducible apply lm_sL); exact rfl)
    | ((with_reducible apply lm_sP); exact rfl; exact rfl)
    | ((with_reducible apply lm_sPL); exact rfl; exact rfl)
    | ((with_reducible apply lm_sAA); exact rfl; exact rfl)
    | ((with_reducible apply lm_sA); (first | exact rfl | assumption); omega)
    | ((with_reducible apply lm_sJ); (first | exact rfl | assumption); omega)
    | ((with_reducible apply lm_sB); (first | exact rfl | assumption); omega)
    | ((with_reducible apply lm_wA); (first | exact rfl | assumption); omega)
    | ((with_reducible apply lm_wJ); (first | exact rfl | assumption); omega)
    | ((with_reducible apply lm_wB); (first | exact rfl | assumption); omega)
    | ((with_reducible apply lm_sAl); (first | exact rfl | assumption); omega)
    | ((with_reducible apply lm_iW); decide))
    simp only [Nat.reduceDiv, Nat.reduceMod]
    rw [f4.1 32 (by decide), fr3 32 (by decide) (by decide), hm]
    refine lm_selA (by omega) (by omega) ?_
    refine lm_cV k5 ?_
    repeat (first
    | ((with_reducible apply lm_sI); exact rfl)
    | ((with_reducible apply lm_sR); exact rfl)
    | ((with_reducible apply lm_sS); exact rfl; exact rfl)
    | ((with_reducible apply lm_sL); exact rfl)
    | ((with_reducible apply lm_sP); exact rfl; exact rfl)
    | ((with_reducible apply lm_sPL); exact rfl; exact rfl)
    | ((with_reducible apply lm_sAA); exact rfl; exact rfl)
    | ((with_reducible apply lm_sA); (first | exact rfl | assumption); omega)
    | ((with_reducible apply lm_sJ); (first | exact rfl | assumption); omega)
    | ((with_reducible apply lm_sB); (first | exact rfl | assumption); omega)
    | ((with_reducible apply lm_wA); (first | exact rfl | assumption); omega)
    | ((with_reducible apply lm_wJ); (first | exact rfl | assumption); omega)
    | ((with_reducible apply lm_wB); (first | exact rfl | assumption); omega)
    | ((with_reducible apply lm_sAl); (first | exact rfl | assumption); omega)
    | ((with_reducible apply lm_iW); decide))
    simp only [Nat.reduceDiv, Nat.reduceMod]
    refine lm_sSI (by omega) (by omega) ?_
    rw [show m5 42 4 = Int32.ofNat (2 + xl + 10 + 1) by rw [(f4.tr f5).1 42 (by decide), r3 42 (by decide), e424]]
    refine lm_selF (by omega) (by omega) ?_
    refine lm_cV k6 ?_
    repeat (first
    | ((with_reducible apply lm_sI); exact rfl)
    | ((with_reducible apply lm_sR); exact rfl)
    | ((with_reducible apply lm_sS); exact rfl; exact rfl)
    | ((with_reducible apply lm_sL); exact rfl)
    | ((with_reducible apply lm_sP); exact rfl; exact rfl)
    | ((with_reducible apply lm_sPL); exact rfl; exact rfl)
    | ((with_reducible apply lm_sAA); exact rfl; exact rfl)
    | ((with_reducible apply lm_sA); (first | exact rfl | assumption); omega)
    | ((with_reducible apply lm_sJ); (first | exact rfl | assumption); omega)
    | ((with_reducible apply lm_sB); (first | exact rfl | assumption); omega)
    | ((with_reducible apply lm_wA); (first | exact rfl | assumption); omega)
    | ((with_reducible apply lm_wJ); (first | exact rfl | assumption); omega)
    | ((with_reducible apply lm_wB); (first | exact rfl | assumption); omega)
    | ((with_reducible apply lm_sAl); (first | exact rfl | assumption); omega)
    | ((with_reducible apply lm_iW); decide))
    simp only [Nat.reduceDiv, Nat.reduceMod]
    refine lm_sSI (by omega) (by omega) ?_
    rw [e42, e424, lm_oo]
    repeat (first
    | ((with_reducible apply lm_sI); exact rfl)
    | ((with_reducible apply lm_sR); exact rfl)
    | ((with_reducible apply lm_sS); exact rfl; exact rfl)
    | ((with_reducible apply lm_sL); exact rfl)
    | ((with_reducible apply lm_sP); exact rfl; exact rfl)
    | ((with_reducible apply lm_sPL); exact rfl; exact rfl)
    | ((with_reducible apply lm_sAA); exact rfl; exact rfl)
    | ((with_reducible apply lm_sA); (first | exact rfl | assumption); omega)
    | ((with_reducible apply lm_sJ); (first | exact rfl | assumption); omega)
    | ((with_reducible apply lm_sB); (first | exact rfl | assumption); omega)
    | ((with_reducible apply lm_wA); (first | exact rfl | assumption); omega)
    | ((with_reducible apply lm_wJ); (first | exact rfl | assumption); omega)
    | ((with_reducible apply lm_wB); (first | exact rfl | assumption); omega)
    | ((with_reducible apply lm_sAl); (first | exact rfl | assumption); omega)
    | ((with_reducible apply lm_iW); decide))
    rfl
  · refine (lm_fN.of (fr3 11 (by decide) (by decide)) (fr3 17 (by decide) (by decide))).tr (fC.N.tr (.of ?_ ?_))
    · rw [lm_u_row (by decide), r7 11 (by decide)]
    · rw [lm_u_row (by decide), r7 17 (by decide)]
  · rw [lm_u_row (by decide), ← eM7, lm_fl_out (by omega), fC.1 43 (by decide), ← eM3, lm_u_ne (by omega), r2 43 (by decide), ← eM1, lm_fl_out (by omega)]
  · rw [lm_u_row (by decide)]
    unfold lm_sp
    rw [if_neg (by omega), if_neg (by omega), if_neg (by omega)]
    by_cases c1 : t < 12 + xl
    · rw [if_pos c1, ← eM7, lm_fl_out (by omega), fC.1 43 (by decide), ← eM3, lm_u_ne (by omega), r2 43 (by decide), ← eM1, lm_fl_in (by omega), Nat.add_zero]
      exact ln_ow_b _ (by omega)
    · rw [if_neg c1]
      by_cases c2 : t = 12 + xl
      · rw [if_pos c2, ← eM7, lm_fl_out (by omega), fC.1 43 (by decide), ← eM3, c2, show 12 + xl = 2 + xl + 10 by omega, lm_u_eq, lm_b8b8]
      · rw [if_neg c2, ← eM7, lm_fl_in (by omega), show t - (2 + xl + 10 + 1) = t - (13 + xl) by omega]
        unfold lm_sgd
        rfl
/-- make -/
theorem lm_u170 (hC : lm_Cok xs C) (hr : ln_rt m) (h2 : kk ≤ 13) (hxk : kk = 0 ∨ xl ≤ 255) (hx : m 34 1 = Int32.ofNat xl) (hxl : xl ≤ 65536) (hm : m 32 1 = Int32.ofNat ml) (hml : ml ≤ 65536) : ∃ m' n', lm_cal (lm_sc xs) (d + 6) 170 [.ref 42, .int (ln_kd kk)] (lm_w m n x) = some (.ok none, lm_w m' n' x) ∧ (∀ r, (r < 5 ∨ 22 < r) → r ≠ 42 → r ≠ 43 → m' r = m r) ∧ lm_fN m n m' n' ∧ m' 42 4 = Int32.ofNat (lm_spl kk xl) ∧ lm_b1 (m' 42 5) = lm_z (decide (kk ≤ 1)) ∧ ∀ t, t < lm_spl kk xl → lm_b8 (m' 43 t) = lm_sp (m 35) xl kk (lm_sgd C kk (m 33) ml) t := by
  have zb : ∀ b : Bool, lm_z b = 0 ∨ lm_z b = 1 := fun b => by cases b <;> decide
  have zb1 : ∀ b : Bool, lm_b1 (lm_z b) = lm_z b := fun b => by cases b <;> decide
  generalize eM1 : lm_u (lm_u m 42 5 (lm_z (decide (kk ≤ 1)))) 42 4 (Int32.ofInt 0) = M1
  have r1 : ∀ r, r ≠ 42 → M1 r = m r := fun r hr => by rw [← eM1, lm_u_row hr, lm_u_row hr]
  have g5 : M1 42 5 = lm_z (decide (kk ≤ 1)) := by rw [← eM1, lm_u_ne (by decide), lm_u_eq]
  have head : ∀ R, lm_q170_10 (lm_sc xs) (lm_cal (lm_sc xs) (d + 5)) (lm_rn (lm_sc xs) (d + 5) lm_m170.2.2.2.2.1 (lm_reg lm_m170.2.2.2.2.2)) 42 (ln_kd kk) (lm_z (decide (kk ≤ 1))) 42 (lm_w m n x) = some R → lm_cal (lm_sc xs) (d + 6) 170 [.ref 42, .int (ln_kd kk)] (lm_w m n x) = some R := by
    intro R K
    refine lm_cal_of (Y := lm_m170) rfl rfl (lm_e170_0 ?_)
    unfold lm_q170_0
    by_cases c : kk ≤ 1
    · rw [decide_eq_true c] at K
      unfold ln_kd
      refine lm_zgtF (b := 0) (by omega) (by omega) (by omega) ?_
      exact lm_e170_10 K
    · rw [decide_eq_false c] at K
      unfold ln_kd
      refine lm_zgtT (b := 0) (by omega) (by omega) (by omega) ?_
      exact lm_e170_10 K
  by_cases c0 : kk = 0
  · refine ⟨M1, n, head _ ?_, fun r _ q2 _ => r1 r q2, .of (r1 11 (by decide)) (r1 17 (by decide)), ?_, by rw [g5]; exact zb1 _, fun t ht => ?_⟩
    · unfold lm_q170_10
      refine lm_sPz rfl rfl (zb _) ?_
      repeat (first
    | ((with_reducible apply lm_sI); exact rfl)
    | ((with_reducible apply lm_sR); exact rfl)
    | ((with_reducible apply lm_sS); exact rfl; exact rfl)
    | ((with_reducible apply lm_sL); exact rfl)
    | ((with_reducible apply lm_sP); exact rfl; exact rfl)
    | ((with_reducible apply lm_sPL); exact rfl; exact rfl)
    | ((with_reducible apply lm_sAA); exact rfl; exact rfl)
    | ((with_reducible apply lm_sA); (first | exact rfl | assumption); omega)
    | ((with_reducible apply lm_sJ); (first | exact rfl | assumption); omega)
    | ((with_reducible apply lm_sB); (first | exact rfl | assumption); omega)
    | ((with_reducible apply lm_wA); (first | exact rfl | assumption); omega)
    | ((with_reducible apply lm_wJ); (first | exact rfl | assumption); omega)
    | ((with_reducible apply lm_wB); (first | exact rfl | assumption); omega)
    | ((with_reducible apply lm_sAl); (first | exact rfl | assumption); omega)
    | ((with_reducible apply lm_iW); decide))
      simp only [Nat.reduceDiv, Nat.reduceMod]
      rw [eM1]
      unfold ln_kd
      refine lm_zltT (b := 0) (by omega) (by omega) (by omega) ?_
      refine lm_e170_96 ?_
      unfold lm_q170_96
      exact lm_zleT (b := 0) (by omega) (by omega) (by omega) rfl
    · rw [← eM1, lm_u_eq]
      unfold lm_spl
      rw [if_pos c0]
      rfl
    · unfold lm_spl at ht
      rw [if_pos c0] at ht
      omega
  · have hx5 : xl ≤ 255 := by omega
    have u168 := ln_u168 (sc := lm_sc xs) (d := d + 4) (n := n) (x := x) (m := M1) (kk := kk) (xl := xl) h2 (by rw [r1 34 (by decide)]; exact hx) hxl
    rw [decide_eq_true (Or.inr hx5)] at u168
    generalize eb : (if kk = 1 then (0 : Int32) else 1) = b0
    have hb0 : lm_b8 b0 = b0 := by rw [← eb]; split <;> decide
    generalize eM2 : lm_cp (lm_u (lm_u M1 43 0 (lm_b8 b0)) 43 1 (lm_b8 (Int32.ofNat xl))) 43 2 35 0 xl = M2
    have r2 : ∀ r, r ≠ 43 → M2 r = M1 r := fun r hr => by rw [← eM2, lm_cp_row hr, lm_u_row hr, lm_u_row hr]
    generalize eM3 : lm_u M2 42 4 (Int32.ofNat (2 + xl)) = M3
    have r3 : ∀ r, r ≠ 42 → M3 r = M2 r := fun r hr => by rw [← eM3, lm_u_row hr]
    have fr3 : ∀ r, r ≠ 42 → r ≠ 43 → M3 r = m r := fun r q1 q2 => by rw [r3 r q1, r2 r q2, r1 r q1]
    have p3 : ∀ D t, t < 2 + xl → lm_b8 (M3 43 t) = lm_sp (m 35) xl kk D t := fun D t ht => by
      rw [r3 43 (by decide), ← eM2, lm_rc]
      unfold lm_sp
      by_cases t0 : t = 0
      · rw [if_pos t0, if_neg (by omega), t0, lm_u_ne (by decide), lm_u_eq, lm_b8b8, hb0, eb]
      · rw [if_neg t0]
        by_cases t1 : t = 1
        · rw [if_pos t1, if_neg (by omega), t1, lm_u_eq, lm_b8b8]
        · rw [if_neg t1, if_pos ht, if_pos ⟨rfl, by omega, by omega⟩, lm_u_row (by decide), lm_u_row (by decide), r1 35 (by decide), Nat.add_zero]
    have run : ∀ R, lm_rn (lm_sc xs) (d + 5) lm_m170.2.2.2.2.1 (lm_reg lm_m170.2.2.2.2.2) (96, [(0, .ref 42), (1, .int (ln_kd kk))], []) (lm_w M3 n x) = some R → lm_cal (lm_sc xs) (d + 6) 170 [.ref 42, .int (ln_kd kk)] (lm_w m n x) = some R := by
      intro R K
      refine head R ?_
      have fin : lm_rn (lm_sc xs) (d + 5) lm_m170.2.2.2.2.1 (lm_reg lm_m170.2.2.2.2.2) (44, [(0, .ref 42), (1, .int (ln_kd kk))], [.int b0, .int (Int32.ofInt 0), .ref 43]) (lm_w M1 n x) = some R := by
        refine lm_e170_44 ?_
        unfold lm_q170_44
        rw [lm_K0, lm_K1, lm_K2]
        repeat (first
    | ((with_reducible apply lm_sI); exact rfl)
    | ((with_reducible apply lm_sR); exact rfl)
    | ((with_reducible apply lm_sS); exact rfl; exact rfl)
    | ((with_reducible apply lm_sL); exact rfl)
    | ((with_reducible apply lm_sP); exact rfl; exact rfl)
    | ((with_reducible apply lm_sPL); exact rfl; exact rfl)
    | ((with_reducible apply lm_sAA); exact rfl; exact rfl)
    | ((with_reducible apply lm_sA); (first | exact rfl | assumption); omega)
    | ((with_reducible apply lm_sJ); (first | exact rfl | assumption); omega)
    | ((with_reducible apply lm_sB); (first | exact rfl | assumption); omega)
    | ((with_reducible apply lm_wA); (first | exact rfl | assumption); omega)
    | ((with_reducible apply lm_wJ); (first | exact rfl | assumption); omega)
    | ((with_reducible apply lm_wB); (first | exact rfl | assumption); omega)
    | ((with_reducible apply lm_sAl); (first | exact rfl | assumption); omega)
    | ((with_reducible apply lm_iW); decide))
        simp only [Nat.reduceDiv, Nat.reduceMod]
        rw [lm_u_row (by decide), lm_u_row (by decide), r1 34 (by decide), hx]
        refine lm_sCp (u := 1) rfl rfl (Or.inr rfl) (show 0 + xl ≤ 65536 by omega) (show 2 + xl ≤ 332 by omega) ?_
        rw [eM2]
        repeat (first
    | ((with_reducible apply lm_sI); exact rfl)
    | ((with_reducible apply lm_sR); exact rfl)
    | ((with_reducible apply lm_sS); exact rfl; exact rfl)
    | ((with_reducible apply lm_sL); exact rfl)
    | ((with_reducible apply lm_sP); exact rfl; exact rfl)
    | ((with_reducible apply lm_sPL); exact rfl; exact rfl)
    | ((with_reducible apply lm_sAA); exact rfl; exact rfl)
    | ((with_reducible apply lm_sA); (first | exact rfl | assumption); omega)
    | ((with_reducible apply lm_sJ); (first | exact rfl | assumption); omega)
    | ((with_reducible apply lm_sB); (first | exact rfl | assumption); omega)
    | ((with_reducible apply lm_wA); (first | exact rfl | assumption); omega)
    | ((with_reducible apply lm_wJ); (first | exact rfl | assumption); omega)
    | ((with_reducible apply lm_wB); (first | exact rfl | assumption); omega)
    | ((with_reducible apply lm_sAl); (first | exact rfl | assumption); omega)
    | ((with_reducible apply lm_iW); decide))
        simp only [Nat.reduceDiv, Nat.reduceMod]
        rw [r2 34 (by decide), r1 34 (by decide), hx, lm_oo, eM3]
        exact K
      unfold lm_q170_10
      refine lm_sPz rfl rfl (zb _) ?_
      repeat (first
    | ((with_reducible apply lm_sI); exact rfl)
    | ((with_reducible apply lm_sR); exact rfl)
    | ((with_reducible apply lm_sS); exact rfl; exact rfl)
    | ((with_reducible apply lm_sL); exact rfl)
    | ((with_reducible apply lm_sP); exact rfl; exact rfl)
    | ((with_reducible apply lm_sPL); exact rfl; exact rfl)
    | ((with_reducible apply lm_sAA); exact rfl; exact rfl)
    | ((with_reducible apply lm_sA); (first | exact rfl | assumption); omega)
    | ((with_reducible apply lm_sJ); (first | exact rfl | assumption); omega)
    | ((with_reducible apply lm_sB); (first | exact rfl | assumption); omega)
    | ((with_reducible apply lm_wA); (first | exact rfl | assumption); omega)
    | ((with_reducible apply lm_wJ); (first | exact rfl | assumption); omega)
    | ((with_reducible apply lm_wB); (first | exact rfl | assumption); omega)
    | ((with_reducible apply lm_sAl); (first | exact rfl | assumption); omega)
    | ((with_reducible apply lm_iW); decide))
      simp only [Nat.reduceDiv, Nat.reduceMod]
      rw [eM1]
      refine lm_zltF (a := (kk : Int) - 1) (b := 0) (by omega) (by omega) (by omega) ?_
      repeat (first
    | ((with_reducible apply lm_sI); exact rfl)
    | ((with_reducible apply lm_sR); exact rfl)
    | ((with_reducible apply lm_sS); exact rfl; exact rfl)
    | ((with_reducible apply lm_sL); exact rfl)
    | ((with_reducible apply lm_sP); exact rfl; exact rfl)
    | ((with_reducible apply lm_sPL); exact rfl; exact rfl)
    | ((with_reducible apply lm_sAA); exact rfl; exact rfl)
    | ((with_reducible apply lm_sA); (first | exact rfl | assumption); omega)
    | ((with_reducible apply lm_sJ); (first | exact rfl | assumption); omega)
    | ((with_reducible apply lm_sB); (first | exact rfl | assumption); omega)
    | ((with_reducible apply lm_wA); (first | exact rfl | assumption); omega)
    | ((with_reducible apply lm_wJ); (first | exact rfl | assumption); omega)
    | ((with_reducible apply lm_wB); (first | exact rfl | assumption); omega)
    | ((with_reducible apply lm_sAl); (first | exact rfl | assumption); omega)
    | ((with_reducible apply lm_iW); decide))
      refine lm_cI u168 ?_
      refine lm_iF (show ¬ (1 : Int32) = 0 by decide) ?_
      repeat (first
    | ((with_reducible apply lm_sI); exact rfl)
    | ((with_reducible apply lm_sR); exact rfl)
    | ((with_reducible apply lm_sS); exact rfl; exact rfl)
    | ((with_reducible apply lm_sL); exact rfl)
    | ((with_reducible apply lm_sP); exact rfl; exact rfl)
    | ((with_reducible apply lm_sPL); exact rfl; exact rfl)
    | ((with_reducible apply lm_sAA); exact rfl; exact rfl)
    | ((with_reducible apply lm_sA); (first | exact rfl | assumption); omega)
    | ((with_reducible apply lm_sJ); (first | exact rfl | assumption); omega)
    | ((with_reducible apply lm_sB); (first | exact rfl | assumption); omega)
    | ((with_reducible apply lm_wA); (first | exact rfl | assumption); omega)
    | ((with_reducible apply lm_wJ); (first | exact rfl | assumption); omega)
    | ((with_reducible apply lm_wB); (first | exact rfl | assumption); omega)
    | ((with_reducible apply lm_sAl); (first | exact rfl | assumption); omega)
    | ((with_reducible apply lm_iW); decide))
      by_cases c1 : kk = 1
      · refine lm_zneF (a := (kk : Int) - 1) (b := 0) (by omega) ?_
        rw [if_pos c1] at eb
        rw [show Int32.ofInt 0 = b0 from eb] at fin ⊢
        exact fin
      · refine lm_zneT (a := (kk : Int) - 1) (b := 0) (by omega) (by omega) (by omega) ?_
        rw [if_neg c1] at eb
        rw [show Int32.ofInt 1 = b0 from eb]
        exact fin
    by_cases c1 : kk = 1
    · refine ⟨M3, n, run _ ?_, fun r _ q2 q3 => fr3 r q2 q3, .of (fr3 11 (by decide) (by decide)) (fr3 17 (by decide) (by decide)), ?_, ?_, fun t ht => p3 _ t ?_⟩
      · refine lm_e170_96 ?_
        unfold lm_q170_96
        exact lm_zleT (a := (kk : Int) - 1) (b := 0) (by omega) (by omega) (by omega) rfl
      · rw [← eM3, lm_u_eq]
        unfold lm_spl
        rw [if_neg c0, if_pos c1]
      · rw [← eM3, lm_u_ne (by decide), r2 42 (by decide), g5]
        exact zb1 _
      · unfold lm_spl at ht
        rw [if_neg c0, if_pos c1] at ht
        exact ht
    · have hr3 : ln_rt M3 := ⟨by rw [fr3 11 (by decide) (by decide)]; exact hr.1, by rw [fr3 17 (by decide) (by decide)]; exact hr.2⟩
      obtain ⟨m4, n4, k4, a1, a2, a3, a4, a5, a6⟩ := lm_u241 (xs := xs) (d := d) (m := M3) (n := n) (x := x) (kk := kk) (xl := xl) (ml := ml) hC hr3 (by omega) h2 hx5 (by rw [← eM3, lm_u_eq]) (by rw [fr3 32 (by decide) (by decide)]; exact hm) hml
      rw [fr3 35 (by decide) (by decide), fr3 33 (by decide) (by decide)] at a6
      have el : lm_spl kk xl = 13 + xl + lm_dg (kk - 1) := by unfold lm_spl; rw [if_neg c0, if_neg c1]
      refine ⟨m4, n4, run _ ?_, fun r q1 q2 q3 => by rw [a1 r q1 q2 q3, fr3 r q2 q3], (lm_fN.of (fr3 11 (by decide) (by decide)) (fr3 17 (by decide) (by decide))).tr a2, by rw [el]; exact a3, ?_, fun t ht => ?_⟩
      · refine lm_e170_96 ?_
        unfold lm_q170_96
        refine lm_zleF (a := (kk : Int) - 1) (b := 0) (by omega) (by omega) (by omega) ?_
        rw [ln_kd_n (by omega)]
        repeat (first
    | ((with_reducible apply lm_sI); exact rfl)
    | ((with_reducible apply lm_sR); exact rfl)
    | ((with_reducible apply lm_sS); exact rfl; exact rfl)
    | ((with_reducible apply lm_sL); exact rfl)
    | ((with_reducible apply lm_sP); exact rfl; exact rfl)
    | ((with_reducible apply lm_sPL); exact rfl; exact rfl)
    | ((with_reducible apply lm_sAA); exact rfl; exact rfl)
    | ((with_reducible apply lm_sA); (first | exact rfl | assumption); omega)
    | ((with_reducible apply lm_sJ); (first | exact rfl | assumption); omega)
    | ((with_reducible apply lm_sB); (first | exact rfl | assumption); omega)
    | ((with_reducible apply lm_wA); (first | exact rfl | assumption); omega)
    | ((with_reducible apply lm_wJ); (first | exact rfl | assumption); omega)
    | ((with_reducible apply lm_wB); (first | exact rfl | assumption); omega)
    | ((with_reducible apply lm_sAl); (first | exact rfl | assumption); omega)
    | ((with_reducible apply lm_iW); decide))
        exact lm_cV k4 rfl
      · rw [a4 5 (by decide), ← eM3, lm_u_ne (by decide), r2 42 (by decide), g5]
        exact zb1 _
      · rw [el] at ht
        by_cases c : t < 2 + xl
        · rw [a5 t c]
          exact p3 _ t c
        · exact a6 t (by omega) ht
/-- addTo -/
theorem lm_u295 (hC : lm_Cok xs C) (h1 : 1 ≤ k) (h2 : k ≤ 12) (hl : lm_spl kk xl ≤ 332) (h4 : m 42 4 = Int32.ofNat (lm_spl kk xl)) (h5 : lm_b1 (m 42 5) = lm_z (decide (kk ≤ 1))) (hm : m 32 1 = Int32.ofNat ml) (hml : ml ≤ 65536) (hG1 : ∀ t, t < lm_spl kk xl → lm_b8 (m 43 t) = G (L + t)) (hG2 : kk ≤ 1 → ∀ t, t < ml → lm_b8 (m 33 t) = G (L + lm_spl kk xl + t)) (hS : lm_CS m n k (lm_MS C k G L)) : ∃ m' n', lm_cal (lm_sc xs) (d + 5) 295 [.ref 42, .ref (lm_obj k)] (lm_w m n x) = some (.ok none, lm_w m' n' x) ∧ lm_CS m' n' k (lm_MS C k G (L + lm_sgl kk xl ml)) ∧ lm_fC m n m' n' := by
  obtain ⟨m1, n1, k1, s1, f1⟩ := lm_cA (xs := xs) (d := d) (x := x) (k := k) (q := 43) (v := 332) (a := 0) (l := lm_spl kk xl) (L := L) (G := G) hC h1 h2 (by decide) rfl (by omega) (by decide) (fun t ht => by
    rw [Nat.zero_add]
    exact hG1 t ht) hS
  have head : ∀ R, lm_if .eq (lm_z (decide (kk ≤ 1))) 0 (lm_ret none) (lm_bind (lm_gR 1610 42) fun v5 => lm_bind (lm_gR 402 v5) fun v6 => lm_bind (lm_gR 1610 42) fun v7 => lm_bind (lm_gI 404 v7) fun v8 => lm_bind (lm_sel [(5, 140), (6, 140), (7, 140)] (some (.ref (lm_obj k)))) fun y9 => lm_bind (lm_asV (lm_cal (lm_sc xs) (d + 4) y9 [.ref (lm_obj k), .ref v6, .int (Int32.ofNat 0), .int v8])) fun _ => lm_ret none) (lm_w m1 n1 x) = some R → lm_cal (lm_sc xs) (d + 5) 295 [.ref 42, .ref (lm_obj k)] (lm_w m n x) = some R := by
    intro R K
    refine lm_cal_of (Y := lm_m295) rfl rfl (lm_e295_0 ?_)
    unfold lm_q295_0
    rw [lm_K0]
    repeat (first
    | ((with_reducible apply lm_sI); exact rfl)
    | ((with_reducible apply lm_sR); exact rfl)
    | ((with_reducible apply lm_sS); exact rfl; exact rfl)
    | ((with_reducible apply lm_sL); exact rfl)
    | ((with_reducible apply lm_sP); exact rfl; exact rfl)
    | ((with_reducible apply lm_sPL); exact rfl; exact rfl)
    | ((with_reducible apply lm_sAA); exact rfl; exact rfl)
    | ((with_reducible apply lm_sA); (first | exact rfl | assumption); omega)
    | ((with_reducible apply lm_sJ); (first | exact rfl | assumption); omega)
    | ((with_reducible apply lm_sB); (first | exact rfl | assumption); omega)
    | ((with_reducible apply lm_wA); (first | exact rfl | assumption); omega)
    | ((with_reducible apply lm_wJ); (first | exact rfl | assumption); omega)
    | ((with_reducible apply lm_wB); (first | exact rfl | assumption); omega)
    | ((with_reducible apply lm_sAl); (first | exact rfl | assumption); omega)
    | ((with_reducible apply lm_iW); decide))
    simp only [Nat.reduceDiv, Nat.reduceMod]
    rw [h4]
    refine lm_selA h1 h2 ?_
    refine lm_cV k1 ?_
    refine lm_sIz rfl ?_
    simp only [Nat.reduceDiv, Nat.reduceMod]
    rw [f1.1 42 (by decide), h5]
    exact K
  by_cases c : kk ≤ 1
  · obtain ⟨m2, n2, k2, s2, f2⟩ := lm_cA (xs := xs) (d := d) (x := x) (k := k) (q := 33) (v := 65536) (a := 0) (l := ml) (L := L + lm_spl kk xl) (G := G) hC h1 h2 (by decide) rfl (by omega) (by decide) (fun t ht => by
      rw [Nat.zero_add, f1.1 33 (by decide)]
      exact hG2 c t ht) s1
    refine ⟨m2, n2, head _ ?_, ?_, f1.tr f2⟩
    · rw [decide_eq_true c]
      refine lm_iF (show ¬ (1 : Int32) = 0 by decide) ?_
      repeat (first
    | ((with_reducible apply lm_sI); exact rfl)
    | ((with_reducible apply lm_sR); exact rfl)
    | ((with_reducible apply lm_sS); exact rfl; exact rfl)
    | ((with_reducible apply lm_sL); exact rfl)
    | ((with_reducible apply lm_sP); exact rfl; exact rfl)
    | ((with_reducible apply lm_sPL); exact rfl; exact rfl)
    | ((with_reducible apply lm_sAA); exact rfl; exact rfl)
    | ((with_reducible apply lm_sA); (first | exact rfl | assumption); omega)
    | ((with_reducible apply lm_sJ); (first | exact rfl | assumption); omega)
    | ((with_reducible apply lm_sB); (first | exact rfl | assumption); omega)
    | ((with_reducible apply lm_wA); (first | exact rfl | assumption); omega)
    | ((with_reducible apply lm_wJ); (first | exact rfl | assumption); omega)
    | ((with_reducible apply lm_wB); (first | exact rfl | assumption); omega)
    | ((with_reducible apply lm_sAl); (first | exact rfl | assumption); omega)
    | ((with_reducible apply lm_iW); decide))
      simp only [Nat.reduceDiv, Nat.reduceMod]
      rw [f1.1 32 (by decide), hm]
      refine lm_selA h1 h2 ?_
      exact lm_cV k2 rfl
    · unfold lm_sgl
      rw [if_pos c, ← Nat.add_assoc]
      exact s2
  · refine ⟨m1, n1, head _ ?_, ?_, f1⟩
    · rw [decide_eq_false c]
      exact lm_iT (show (0 : Int32) = 0 by decide) rfl
    · unfold lm_sgl
      rw [if_neg c, Nat.add_zero]
      exact s1
end LMSG2
