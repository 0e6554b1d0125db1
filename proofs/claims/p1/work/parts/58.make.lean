/-! ===== MAKING: rules for constructors ===== -/
def lm_zr (K : Nat) (m : lm_MI) (n : lm_ML) : Prop := ∀ q, K ≤ q → m q = (fun _ => 0) ∧ n q = (fun _ => 0)
theorem lm_zr.mono {K L : Nat} {m : lm_MI} {n : lm_ML} (h : lm_zr K m n) (hL : K ≤ L) : lm_zr L m n := fun q hq => h q (Nat.le_trans hL hq)
theorem lm_zr.u {K q a : Nat} {m : lm_MI} {n : lm_ML} {v : Int32} (h : lm_zr K m n) (hq : q < K) : lm_zr K (lm_u m q a v) n := fun p hp => ⟨(lm_u_row (by omega)).trans (h p hp).1, (h p hp).2⟩
/-- D speaks of places below K alone -/
def lm_Dlt (K : Nat) (D : List (Nat × List Nat)) : Bool := D.all fun e => Nat.blt e.1 K
section LMMA
variable {β : Type} {sc : lm_H} {K : Nat} {D : List (Nat × List Nat)} {m : lm_MI} {n : lm_ML} {C S w : Nat} {t : lm_T} {r : Option (Except Nat β × lm_S)}
theorem lm_find_none (h : lm_Dlt K D = true) {q : Nat} (hq : K ≤ q) : D.find? (fun e => Nat.beq e.1 q) = none := by
  rw [List.find?_eq_none]
  intro e he h1
  have h2 := List.all_eq_true.mp h e he
  rw [Nat.blt_eq] at h2
  have h3 : e.1 = q := Nat.eq_of_beq_eq_true h1
  omega
theorem lm_dt_up {K' : Nat} {q : Nat} {E : List (Nat × List Nat)} (hq : q < K) (h : K ≤ K') (hE : E.all (fun e => Nat.ble K e.1) = true) : lm_dt K' (E ++ D) q = lm_dt K D q := by
  unfold lm_dt
  have e1 : Nat.blt q K = true := Nat.blt_eq.mpr hq
  have e2 : Nat.blt q K' = true := Nat.blt_eq.mpr (by omega)
  have e3 : E.find? (fun e => Nat.beq e.1 q) = none := by
    rw [List.find?_eq_none]
    intro e he h1
    have h2 := List.all_eq_true.mp hE e he
    rw [Nat.ble_eq] at h2
    have h3 : e.1 = q := Nat.eq_of_beq_eq_true h1
    omega
  rw [e1, e2, List.find?_append, e3]
  rfl
/-- one more cell -/
theorem lm_mkD_push {E : List (Nat × List Nat)} {c : lm_C} (hE : E.all (fun e => Nat.ble K e.1) = true) (ht : lm_dt (K + 1) (E ++ D) K = some t) (hc : lm_mkc (fun _ _ => 0) (fun _ _ => 0) K t = c) (hz : lm_zr K m n) : lm_mkD K D m n ++ [c] = lm_mkD (K + 1) (E ++ D) m n := by
  unfold lm_mkD
  rw [List.range_succ, List.map_append]
  congr 1
  · apply List.map_congr_left
    intro q hq
    rw [lm_dt_up (List.mem_range.mp hq) (by omega) hE]
  · rw [List.map_singleton, ht, ← hc]
    have h := hz K (Nat.le_refl _)
    exact congrArg (fun z => [z]) (lm_mkc_congr h.1.symm h.2.symm)
theorem lm_push_ok {E : List (Nat × List Nat)} {c : lm_C} (hE : E.all (fun e => Nat.ble K e.1) = true) (ht : lm_dt (K + 1) (E ++ D) K = some t) (hc : lm_mkc (fun _ _ => 0) (fun _ _ => 0) K t = c) (hz : lm_zr K m n) (hK : K < 899999) : lm_push c w (lm_W K D m n ([], C + 1, S + w)) = some (.ok K, lm_W (K + 1) (E ++ D) m n ([], C, S)) := by
  unfold lm_push lm_W
  dsimp only
  rw [List.append_nil, List.append_nil, lm_mk_len, if_pos ⟨by show K + 1 < 1000000; omega, by omega, by omega⟩, lm_mkD_push hE ht hc hz, Nat.add_sub_cancel, Nat.add_sub_cancel]
/-- a new object: its table entry is open -/
theorem lm_nO {f : Nat → lm_M β} {c : lm_C} (hK : Nat.blt K 899999 = true) (ht : lm_dt (K + 1) ((K, []) :: D) K = some t) (hc : lm_mkc (fun _ _ => 0) (fun _ _ => 0) K t = c) (hz : lm_zr K m n) (k : f K (lm_W (K + 1) ((K, []) :: D) m n ([], C, S)) = r) : lm_bind (lm_push c w) f (lm_W K D m n ([], C + 1, S + w)) = r := by
  rw [← k]
  exact lm_bd_ok (lm_push_ok (E := [(K, [])]) (by simp) ht hc hz (Nat.blt_eq.mp hK))
theorem lm_newa_b (hw : w ≤ 65536) : lm_newa .byte (Int32.ofNat w) = lm_push (.inl (1, List.replicate w 0)) w := by
  unfold lm_newa
  have h := lm_nn (a := w) (by omega)
  rw [h.2, if_pos ⟨h.1, by omega⟩]
theorem lm_newa_i (hw : w ≤ 65536) : lm_newa .int (Int32.ofNat w) = lm_push (.inl (0, List.replicate w 0)) w := by
  unfold lm_newa
  have h := lm_nn (a := w) (by omega)
  rw [h.2, if_pos ⟨h.1, by omega⟩]
theorem lm_newa_l (hw : w ≤ 65536) : lm_newa .long (Int32.ofNat w) = lm_push (.inr (.inl (List.replicate w 0))) w := by
  unfold lm_newa
  have h := lm_nn (a := w) (by omega)
  rw [h.2, if_pos ⟨h.1, by omega⟩]
theorem lm_rg_rep {α : Type} (z : α) : (List.range w).map (fun _ => z) = List.replicate w z := by
  rw [List.map_const', List.length_range]
theorem lm_nB {f : Nat → lm_M β} (hK : Nat.blt K 899999 = true) (ht : lm_dt (K + 1) D K = some (.inl (1, w))) (hz : lm_zr K m n) (k : f K (lm_W (K + 1) D m n ([], C, S)) = r) : lm_bind (lm_newa .byte (Int32.ofNat w)) f (lm_W K D m n ([], C + 1, S + w)) = r := by
  have hw : w ≤ 65536 := Nat.ble_eq.mp (lm_shp_sm ht)
  rw [← k, lm_newa_b hw]
  exact lm_bd_ok (lm_push_ok (E := []) (by simp) ht (congrArg (fun l => (Sum.inl (1, l) : lm_C)) (lm_rg_rep (0 : Int32))) hz (Nat.blt_eq.mp hK))
theorem lm_nI {f : Nat → lm_M β} (hK : Nat.blt K 899999 = true) (ht : lm_dt (K + 1) D K = some (.inl (0, w))) (hz : lm_zr K m n) (k : f K (lm_W (K + 1) D m n ([], C, S)) = r) : lm_bind (lm_newa .int (Int32.ofNat w)) f (lm_W K D m n ([], C + 1, S + w)) = r := by
  have hw : w ≤ 65536 := Nat.ble_eq.mp (lm_shp_sm ht)
  rw [← k, lm_newa_i hw]
  exact lm_bd_ok (lm_push_ok (E := []) (by simp) ht (congrArg (fun l => (Sum.inl (0, l) : lm_C)) (lm_rg_rep (0 : Int32))) hz (Nat.blt_eq.mp hK))
theorem lm_nL {f : Nat → lm_M β} (hK : Nat.blt K 899999 = true) (ht : lm_dt (K + 1) D K = some (.inr (.inl w))) (hz : lm_zr K m n) (k : f K (lm_W (K + 1) D m n ([], C, S)) = r) : lm_bind (lm_newa .long (Int32.ofNat w)) f (lm_W K D m n ([], C + 1, S + w)) = r := by
  have hw : w ≤ 65536 := Nat.ble_eq.mp (lm_shp_sm ht)
  rw [← k, lm_newa_l hw]
  exact lm_bd_ok (lm_push_ok (E := []) (by simp) ht (congrArg (fun l => (Sum.inr (Sum.inl l) : lm_C)) (lm_rg_rep (0 : Int64))) hz (Nat.blt_eq.mp hK))
/-- the array of slots -/
theorem lm_nR6 {f : Nat → lm_M β} (hK : Nat.blt K 899999 = true) (ht : lm_dt (K + 1) ((K, []) :: D) K = some (.inr (.inr (.inl (6, [0, 0, 0, 0, 0, 0, 0, 0]))))) (hz : lm_zr K m n) (k : f K (lm_W (K + 1) ((K, []) :: D) m n ([], C, S)) = r) : lm_bind (lm_newr 6 (Int32.ofNat 8)) f (lm_W K D m n ([], C + 1, S + 8)) = r := by
  rw [← k]
  exact lm_bd_ok (lm_push_ok (E := [(K, [])]) (by simp) ht rfl hz (Nat.blt_eq.mp hK))
/-- a matrix -/
def lm_okm (K u c w : Nat) (rs : List Nat) : Bool := decide (rs = (List.range c).map fun i => K + 2 + i) && (List.range c).all fun i => decide (lm_shq (K + 1 + i) = some (.inl (u, w)))
theorem lm_mkD_rows {u c : Nat} (hK : K + c < 900000) (hD : lm_Dlt K D = true) (hw : w ≤ 65536) (hu : u ≤ 2) (h : ∀ i, i < c → lm_shq (K + i) = some (.inl (u, w))) (hz : lm_zr K m n) : lm_mkD K D m n ++ List.replicate c (.inl (u, List.replicate w 0)) = lm_mkD (K + c) D m n := by
  induction c with
  | zero => simp
  | succ c ih =>
    rw [List.replicate_succ', ← List.append_assoc, ih (by omega) (fun i hi => h i (by omega)), show K + (c + 1) = K + c + 1 by omega]
    refine lm_mkD_push (E := []) (K := K + c) (t := .inl (u, w)) (by simp) ?_ ?_ (hz.mono (by omega))
    · show lm_dt (K + c + 1) D (K + c) = _
      unfold lm_dt
      rw [Nat.blt_eq.mpr (show K + c < K + c + 1 by omega), Nat.blt_eq.mpr (show K + c < 900000 by omega), lm_find_none hD (by omega), h c (by omega)]
      show cond (Nat.ble w 65536) _ _ = _
      rw [Nat.ble_eq.mpr hw]
      rfl
    · show (Sum.inl (u, _) : lm_C) = _
      have e : (fun (_ : Nat) => lm_elm u 0) = fun _ => 0 := by
        funext _
        match u, hu with
        | 0, _ => rfl
        | 1, _ => rfl
        | 2, _ => rfl
      show (Sum.inl (u, (List.range w).map fun _ => lm_elm u 0) : lm_C) = _
      rw [e, lm_rg_rep]
theorem lm_nM {f : Nat → lm_M β} {u c : Nat} {rs : List Nat} (hK : Nat.blt (K + 1 + c) 899999 = true) (hu : Nat.ble u 2 = true) (hc : Nat.ble c 65536 = true) (hw : Nat.ble w 65536 = true) (hD : lm_Dlt K D = true) (ht : lm_dt (K + 1) D K = some (.inr (.inr (.inl (u + 3, rs))))) (ho : lm_okm K u c w rs = true) (hz : lm_zr K m n) (k : f K (lm_W (K + (1 + c)) D m n ([], C, S)) = r) : lm_bind (lm_newm (u + 3) (Int32.ofNat c) (Int32.ofNat w)) f (lm_W K D m n ([], C + (1 + c), S + (c + c * w))) = r := by
  rw [Nat.blt_eq] at hK
  rw [Nat.ble_eq] at hu hc hw
  unfold lm_okm at ho
  rw [Bool.and_eq_true, decide_eq_true_eq, List.all_eq_true] at ho
  have h1 := lm_nn (a := c) (by omega)
  have h2 := lm_nn (a := w) (by omega)
  rw [← k]
  refine lm_bd_ok ?_
  unfold lm_newm lm_W
  dsimp only
  rw [List.append_nil, List.append_nil, lm_mk_len, h1.2, h2.2, if_pos ⟨h1.1, by omega, h2.1, by omega, by omega, by omega, by show K + 1 + c < 1000000; omega, by omega, by omega⟩]
  have e1 : lm_mkD K D m n ++ (.inr (.inr (.inl (u + 3, (List.range c).map fun i => some (K + 1 + i)))) :: List.replicate c (.inl (u + 3 - 3, List.replicate w 0))) = lm_mkD (K + (1 + c)) D m n := by
    rw [show u + 3 - 3 = u by omega, ← List.singleton_append, ← List.append_assoc]
    rw [lm_mkD_push (E := []) (K := K) (D := D) (by simp) ht (c := .inr (.inr (.inl (u + 3, (List.range c).map fun i => some (K + 1 + i))))) ?_ hz]
    · rw [List.nil_append, lm_mkD_rows (K := K + 1) (c := c) (by omega) ?_ hw hu ?_ (hz.mono (by omega)), Nat.add_assoc]
      · rw [lm_Dlt, List.all_eq_true] at hD ⊢
        intro e he
        have := Nat.blt_eq.mp (hD e he)
        exact Nat.blt_eq.mpr (by omega)
      · intro i hi
        exact of_decide_eq_true (ho.2 i (List.mem_range.mpr hi))
    · show (Sum.inr (Sum.inr (Sum.inl (u + 3, rs.map lm_rr))) : lm_C) = _
      rw [ho.1, List.map_map]
      have e : (lm_rr ∘ fun i => K + 2 + i) = fun i => some (K + 1 + i) := by
        funext i
        show lm_rr (K + 2 + i) = _
        rw [show K + 2 + i = K + 1 + i + 1 by omega]
        rfl
      rw [e]
  rw [e1, Nat.add_sub_cancel, Nat.add_sub_cancel]
/-- what is written into the table: place, what was set, the new -/
theorem lm_mkD_set {D' : List (Nat × List Nat)} {t' : lm_T} {q : Nat} {c : lm_C} {m' : lm_MI} (hq : q < K) (ht : lm_dt K D' q = some t') (hc : lm_mkc m' n q t' = c) (h1 : ∀ p, p ≠ q → lm_dt K D' p = lm_dt K D p) (h2 : ∀ p, p ≠ q → m' p = m p) : (lm_mkD K D m n).set q c = lm_mkD K D' m' n := by
  apply List.ext_getElem?
  intro i
  unfold lm_mkD
  rw [List.getElem?_set, List.getElem?_map, List.getElem?_map, List.length_map, List.length_range]
  by_cases e : q = i
  · subst e
    rw [if_pos rfl, if_pos hq, List.getElem?_range hq, Option.map_some, ht, ← hc]
    rfl
  · rw [if_neg e]
    by_cases hi : i < K
    · rw [List.getElem?_range hi, Option.map_some, Option.map_some, h1 i (fun h => e h.symm), lm_mkc_congr (h2 i (fun h => e h.symm)) rfl]
    · rw [List.getElem?_eq_none (by simpa using hi)]
      rfl
theorem lm_dt_ne {q p : Nat} {S' S'' : List Nat} (h : p ≠ q) : lm_dt K ((q, S') :: D) p = lm_dt K ((q, S'') :: D) p := by
  unfold lm_dt
  rw [List.find?_cons, List.find?_cons]
  have e : Nat.beq q p = false := by
    cases h1 : Nat.beq q p with
    | true => exact absurd (Nat.eq_of_beq_eq_true h1).symm h
    | false => rfl
  dsimp only
  rw [e]
/-- a reference laid into a field of the cell that is being made -/
theorem lm_nR {f : Unit → lm_M β} {e o j c : Nat} {ps ps' : List Nat} {Q : List Nat} {x : lm_H × Nat × Nat} {p : Nat} (he : e % 4 = 2) (hj : e / 4 % 100 = j) (ht : lm_dt K ((o, Q) :: D) o = some (.inr (.inr (.inr (c, ps))))) (ht' : lm_dt K ((o, j :: Q) :: D) o = some (.inr (.inr (.inr (c, ps'))))) (hs : lm_sub (e / 400) c = true) (hp : ps' = ps.set j (p + 5)) (hl : Nat.blt j ps.length = true) (k : f () (lm_W K ((o, j :: Q) :: D) m n x) = r) : lm_bind (lm_putf e o (.ref p)) f (lm_W K ((o, Q) :: D) m n x) = r := by
  rw [← k]
  refine lm_bd_ok ((lm_putf_ok (lm_mk_get ht) (lm_q_lt ht) hs ?_ ?_).trans ?_)
  · rw [List.length_mapIdx, hj]
    exact hl
  · rw [he]
    rfl
  · unfold lm_W
    rw [List.set_append_left _ _ (by rw [lm_mk_len]; exact lm_dt_lt ht), hj]
    rw [lm_mkD_set (m' := m) (lm_dt_lt ht) ht' ?_ (fun p hp => lm_dt_ne hp) (fun _ _ => rfl)]
    show (Sum.inr (Sum.inr (Sum.inr (c, _))) : lm_C) = _
    subst hp
    refine congrArg (fun l => (Sum.inr (Sum.inr (Sum.inr (c, l))) : lm_C)) ?_
    apply List.ext_getElem?
    intro i
    rw [List.getElem?_mapIdx, List.getElem?_set, List.getElem?_set, List.getElem?_mapIdx, List.length_mapIdx]
    by_cases e : j = i
    · subst e
      rw [if_pos rfl, if_pos rfl, if_pos (Nat.blt_eq.mp hl), if_pos (Nat.blt_eq.mp hl)]
      rfl
    · rw [if_neg e, if_neg e]
/-- one of the three hashes laid into a field -/
theorem lm_nRh {f : Unit → lm_M β} {e o j c : Nat} {ps ps' : List Nat} {Q : List Nat} {x : lm_H × Nat × Nat} {p : Nat} (he : e % 4 = 2) (hj : e / 4 % 100 = j) (ht : lm_dt K ((o, Q) :: D) o = some (.inr (.inr (.inr (c, ps))))) (ht' : lm_dt K ((o, j :: Q) :: D) o = some (.inr (.inr (.inr (c, ps'))))) (hs : lm_sub (e / 400) c = true) (hp : ps' = ps.set j 3) (hl : Nat.blt j ps.length = true) (hv : Nat.ble p 100 = true) (k : f () (lm_W K ((o, j :: Q) :: D) (lm_u m o j (Int32.ofNat p)) n x) = r) : lm_bind (lm_putf e o (.ref p)) f (lm_W K ((o, Q) :: D) m n x) = r := by
  rw [← k]
  refine lm_bd_ok ((lm_putf_ok (lm_mk_get ht) (lm_q_lt ht) hs ?_ ?_).trans ?_)
  · rw [List.length_mapIdx, hj]
    exact hl
  · rw [he]
    rfl
  · unfold lm_W
    rw [List.set_append_left _ _ (by rw [lm_mk_len]; exact lm_dt_lt ht), hj]
    rw [lm_mkD_set (m' := lm_u m o j (Int32.ofNat p)) (lm_dt_lt ht) ht' ?_ (fun p hp => lm_dt_ne hp) (fun _ hp => lm_u_row hp)]
    show (Sum.inr (Sum.inr (Sum.inr (c, _))) : lm_C) = _
    subst hp
    refine congrArg (fun l => (Sum.inr (Sum.inr (Sum.inr (c, l))) : lm_C)) ?_
    apply List.ext_getElem?
    intro i
    rw [List.getElem?_mapIdx, List.getElem?_set, List.getElem?_set, List.getElem?_mapIdx, List.length_mapIdx]
    by_cases e : j = i
    · subst e
      rw [if_pos rfl, if_pos rfl, if_pos (Nat.blt_eq.mp hl), if_pos (Nat.blt_eq.mp hl)]
      show some (Value.ref (lm_u m o j (Int32.ofNat p) o j).toNatClampNeg) = _
      rw [lm_u_eq, (lm_nn (a := p) (by have := Nat.ble_eq.mp hv; omega)).2]
    · rw [if_neg e, if_neg e]
      cases ps[i]? with
      | none => rfl
      | some z =>
        rw [Option.map_some, Option.map_some, lm_fv_ne (fun h => e h.symm)]
/-- a slot laid into the array of slots -/
theorem lm_nS {f : Unit → lm_M β} {q a u c : Nat} {rs rs' ps : List Nat} {Q : List Nat} {x : lm_H × Nat × Nat} {p : Nat} (ht : lm_dt K ((q, Q) :: D) q = some (.inr (.inr (.inl (6, rs))))) (ht' : lm_dt K ((q, a :: Q) :: D) q = some (.inr (.inr (.inl (6, rs'))))) (hp : rs' = rs.set a (p + 1)) (hl : Nat.blt a rs.length = true) (h1 : lm_dt K ((q, Q) :: D) p = some (.inr (.inr (.inr (1, ps))))) (k : f () (lm_W K ((q, a :: Q) :: D) m n x) = r) : lm_bind (lm_aast q (Int32.ofNat a) p) f (lm_W K ((q, Q) :: D) m n x) = r := by
  have hl := Nat.blt_eq.mp hl
  have hs : rs.length ≤ 65536 := by
    have h := lm_shp_sm ht
    simp only [lm_small, Bool.and_eq_true, Nat.ble_eq] at h
    exact h.1
  have ha := lm_nn (a := a) (by omega)
  rw [← k]
  refine lm_bd_ok ?_
  unfold lm_aast lm_W
  dsimp only
  rw [if_pos ⟨lm_q_lt ht, lm_q_lt h1⟩, lm_mk_get ht, lm_mk_get h1]
  show (if 6 = 6 ∧ 1 = lm_kBytes ∧ ¬ Int32.ofNat a < 0 ∧ (Int32.ofNat a).toNatClampNeg < (rs.map lm_rr).length then _ else _) = _
  rw [ha.2, if_pos ⟨rfl, rfl, ha.1, by rw [List.length_map]; exact hl⟩, List.set_append_left _ _ (by rw [lm_mk_len]; exact lm_dt_lt ht)]
  rw [lm_mkD_set (m' := m) (lm_dt_lt ht) ht' ?_ (fun p hp => lm_dt_ne hp) (fun _ _ => rfl)]
  show (Sum.inr (Sum.inr (Sum.inl (6, rs'.map lm_rr))) : lm_C) = _
  rw [hp, List.map_set]
  rfl
/-- a cell is made: close it -/
theorem lm_nX {α : Type} {g : lm_M α} {o : Nat} {Q : List Nat} {x : lm_H × Nat × Nat} {r : Option (Except Nat α × lm_S)} (h : lm_dt K ((o, Q) :: D) o = lm_dt K D o) (k : g (lm_W K D m n x) = r) : g (lm_W K ((o, Q) :: D) m n x) = r := by
  rw [← k]
  have e : lm_mkD K ((o, Q) :: D) m n = lm_mkD K D m n := by
    unfold lm_mkD
    apply List.map_congr_left
    intro q _
    by_cases c : q = o
    · rw [c, h]
    · congr 1
      unfold lm_dt
      rw [List.find?_cons]
      have e : Nat.beq o q = false := by
        cases h1 : Nat.beq o q with
        | true => exact absurd (Nat.eq_of_beq_eq_true h1).symm c
        | false => rfl
      dsimp only
      rw [e]
  unfold lm_W
  rw [e]
theorem lm_nSw {α : Type} {g : lm_M α} {a b : Nat × List Nat} {x : lm_H × Nat × Nat} {r : Option (Except Nat α × lm_S)} (h : Nat.beq a.1 b.1 = false) (k : g (lm_W K (b :: a :: D) m n x) = r) : g (lm_W K (a :: b :: D) m n x) = r := by
  rw [← k]
  have e : lm_mkD K (a :: b :: D) m n = lm_mkD K (b :: a :: D) m n := by
    unfold lm_mkD
    apply List.map_congr_left
    intro q _
    congr 1
    unfold lm_dt
    rw [List.find?_cons, List.find?_cons, List.find?_cons, List.find?_cons]
    cases h1 : Nat.beq a.1 q with
    | false => rfl
    | true =>
      cases h2 : Nat.beq b.1 q with
      | false => rfl
      | true =>
        rw [Nat.eq_of_beq_eq_true h1, Nat.eq_of_beq_eq_true h2, Nat.beq_refl] at h
        cases h
  unfold lm_W
  rw [e]
end LMMA
