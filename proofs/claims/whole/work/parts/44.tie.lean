/-! ===== the tie of class and reference ===== -/
def lm_be4 (v : Int32) : List Int32 := [lm_b8 (v >>> 24), lm_b8 (v >>> 16), lm_b8 (v >>> 8), lm_b8 v]
theorem lm_set_take {xs : List Int32} {a : Nat} (ha : a < xs.length) (v : Int32) : (xs.set a v).take (a + 1) = xs.take a ++ [v] := by
  rw [List.take_add_one, List.getElem?_set]
  simp only [↓reduceIte, ha]
  rw [List.take_set_of_le (Nat.le_refl a)]
  rfl
theorem lm_pi_take {xs : List Int32} {a : Nat} (ha : a + 4 ≤ xs.length) (v : Int32) : (lm_pi v xs a).take (a + 4) = xs.take a ++ lm_be4 v := by
  unfold lm_pi lm_be4
  rw [lm_set_take (by simp only [List.length_set]; omega), lm_set_take (by simp only [List.length_set]; omega), lm_set_take (by simp only [List.length_set]; omega), lm_set_take (by omega)]
  simp only [List.append_assoc, List.cons_append, List.nil_append]
theorem lm_pi5_take {xs : List Int32} {a : Nat} (ha : a + 20 ≤ xs.length) (v1 v2 v3 v4 v5 : Int32) : (lm_pi5 v1 v2 v3 v4 v5 xs a).take (a + 20) = xs.take a ++ (lm_be4 v1 ++ (lm_be4 v2 ++ (lm_be4 v3 ++ (lm_be4 v4 ++ lm_be4 v5)))) := by
  unfold lm_pi5
  rw [show a + 20 = a + 16 + 4 by omega, lm_pi_take (by simp only [lm_pi_len]; omega)]
  rw [show a + 16 = a + 12 + 4 by omega, lm_pi_take (by simp only [lm_pi_len]; omega)]
  rw [show a + 12 = a + 8 + 4 by omega, lm_pi_take (by simp only [lm_pi_len]; omega)]
  rw [show a + 8 = a + 4 + 4 by omega, lm_pi_take (by simp only [lm_pi_len]; omega), lm_pi_take (by omega)]
  simp only [List.append_assoc]
/-- the places of slot i: the class's object, its bytes; the reference's bytes -/
abbrev lm_pO (i : Nat) : Nat := 26 + 2 * i
abbrev lm_pB (i : Nat) : Nat := 27 + 2 * i
abbrev lm_pM (i : Nat) : Nat := 206 + i
/-- the class's slot i holds the bytes bs, and the reference's too -/
def lm_Slot (h : lm_H) (i : Nat) (bs : List Int32) : Prop := ∃ xs ys ns, bs.length ≤ 65536 ∧ lm_vF h (lm_pO i) 1 = some (.int (Int32.ofNat bs.length)) ∧ lm_vA h (lm_pB i) 1 = some xs ∧ xs.take bs.length = bs ∧ lm_vA h 214 0 = some ns ∧ ns[i]? = some (Int32.ofNat bs.length) ∧ lm_vA h (lm_pM i) 1 = some ys ∧ ys.take bs.length = bs
/-- the tapes hold the bytes bs -/
def lm_Tape (h : lm_H) (bs : List Int32) : Prop := ∃ xs ys, bs.length ≤ 65536 ∧ lm_vF h 2 1 = some (.int (Int32.ofNat bs.length)) ∧ lm_vA h 3 1 = some xs ∧ xs.take bs.length = bs ∧ lm_vF h 203 3 = some (.int (Int32.ofNat bs.length)) ∧ lm_vA h 204 1 = some ys ∧ ys.take bs.length = bs
theorem lm_Fr.slot {A : List Nat} {F : List (Nat × Nat)} {h h' : lm_H} {i : Nat} {bs : List Int32} (f : lm_Fr A F h h') (hs : lm_Slot h i bs) (a1 : lm_pB i ∉ A) (a2 : lm_pM i ∉ A) (a3 : 214 ∉ A) (a4 : (lm_pO i, 1) ∉ F) : lm_Slot h' i bs := by
  obtain ⟨xs, ys, ns, b1, b2, b3, b4, b5, b6, b7, b8⟩ := hs
  exact ⟨xs, ys, ns, b1, (f.2.2.2.2 _ _ a4).trans b2, (f.2.2.1 _ _ a1).trans b3, b4, (f.2.2.1 _ _ a3).trans b5, b6, (f.2.2.1 _ _ a2).trans b7, b8⟩
theorem lm_Fr.tape {A : List Nat} {F : List (Nat × Nat)} {h h' : lm_H} {bs : List Int32} (f : lm_Fr A F h h') (hs : lm_Tape h bs) (a1 : 3 ∉ A) (a2 : 204 ∉ A) (a3 : (2, 1) ∉ F) (a4 : (203, 3) ∉ F) : lm_Tape h' bs := by
  obtain ⟨xs, ys, b1, b2, b3, b4, b5, b6, b7⟩ := hs
  exact ⟨xs, ys, b1, (f.2.2.2.2 _ _ a3).trans b2, (f.2.2.1 _ _ a1).trans b3, b4, (f.2.2.2.2 _ _ a4).trans b5, (f.2.2.1 _ _ a2).trans b6, b7⟩
/-- both feeds, where there is room: the same answer, the same tape -/
theorem lm_feed_both {sc h : lm_H} {s : Nat × Nat} {d : Nat} {bs : List Int32} (v1 v2 v3 v4 v5 : Int32) (hS : lm_Sh h) (hT : lm_Tape h bs) (hr : bs.length + 20 ≤ 65536) :
    ∃ h1, lm_cal sc (d + 2) 48 [.ref 0, .int v1, .int v2, .int v3, .int v4, .int v5] (h, s) = some (.ok (some (.int (Int32.ofNat (bs.length + 20)))), (h1, s)) ∧ lm_Fr [3] [(2, 1)] h h1 ∧
      ∀ h1' : lm_H, lm_Fr [362] [] h1 h1' → ∃ h2, lm_cal sc (d + 2) 3 [.ref 203, .int v1, .int v2, .int v3, .int v4, .int v5] (h1', s) = some (.ok (some (.int (Int32.ofNat (bs.length + 20)))), (h2, s)) ∧ lm_Fr [204] [(203, 3), (203, 4)] h1' h2 ∧ lm_vF h2 203 4 = some (.int 0) ∧ lm_Tape h2 (bs ++ (lm_be4 v1 ++ (lm_be4 v2 ++ (lm_be4 v3 ++ (lm_be4 v4 ++ lm_be4 v5))))) := by
  obtain ⟨xs, ys, b1, b2, b3, b4, b5, b6, b7⟩ := hT
  obtain ⟨x', hx', hxl, -⟩ := hS.arr (q := 3) (u := 1) (n := 65536) rfl
  cases b3.symm.trans hx'
  obtain ⟨y', hy', hyl, -⟩ := hS.arr (q := 204) (u := 1) (n := 65536) rfl
  cases b6.symm.trans hy'
  obtain ⟨h1, c1, f1, s1, A1⟩ := lm_t48 (sc := sc) (s := s) (d := d) v1 v2 v3 v4 v5 hS b2 b3 hr
  refine ⟨h1, c1, f1, fun h1' f1' => ?_⟩
  have S1 := f1'.2.1 (f1.2.1 hS)
  have t3 : lm_vF h1' 203 3 = some (.int (Int32.ofNat bs.length)) := (f1'.2.2.2.2 _ _ (by decide)).trans ((f1.2.2.2.2 _ _ (by decide)).trans b5)
  have tA : lm_vA h1' 204 1 = some ys := (f1'.2.2.1 _ _ (by decide)).trans ((f1.2.2.1 _ _ (by decide)).trans b6)
  obtain ⟨h2, c2, f2, s2, s4, A2⟩ := lm_t3 (sc := sc) (s := s) (d := d) v1 v2 v3 v4 v5 S1 t3 tA hr
  refine ⟨h2, c2, f2, s4, ?_⟩
  have el : (bs ++ (lm_be4 v1 ++ (lm_be4 v2 ++ (lm_be4 v3 ++ (lm_be4 v4 ++ lm_be4 v5))))).length = bs.length + 20 := by
    simp [lm_be4]
  refine ⟨lm_pi5 v1 v2 v3 v4 v5 xs bs.length, lm_pi5 v1 v2 v3 v4 v5 ys bs.length, by rw [el]; exact hr, ?_, ?_, ?_, ?_, A2, ?_⟩
  · rw [el]
    exact (f2.2.2.2.2 _ _ (by decide)).trans ((f1'.2.2.2.2 _ _ (by decide)).trans s1)
  · exact (f2.2.2.1 _ _ (by decide)).trans ((f1'.2.2.1 _ _ (by decide)).trans A1)
  · rw [el, lm_pi5_take (by omega), b4]
  · rw [el]; exact s2
  · rw [el, lm_pi5_take (by omega), b7]
