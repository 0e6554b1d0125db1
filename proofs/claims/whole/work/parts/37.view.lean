/-! ===== VIEWS of a heap: the class of an object, its fields, the arrays ===== -/
def lm_vK (h : lm_H) (o : Nat) : Option Nat := match h[o]? with
  | some (.inr (.inr (.inr (c, _)))) => some c
  | _ => none
def lm_vF (h : lm_H) (o k : Nat) : Option Value := match h[o]? with
  | some (.inr (.inr (.inr (_, fs)))) => fs[k]?
  | _ => none
/-- arrays of ints (u: 0), bytes (1), booleans (2) -/
def lm_vA (h : lm_H) (q u : Nat) : Option (List Int32) := match h[q]? with
  | some (.inl (w, xs)) => cond (Nat.beq w u) (some xs) none
  | _ => none
def lm_vL (h : lm_H) (q : Nat) : Option (List Int64) := match h[q]? with
  | some (.inr (.inl xs)) => some xs
  | _ => none
def lm_vR (h : lm_H) (q : Nat) : Option (Nat × List (Option Nat)) := match h[q]? with
  | some (.inr (.inr (.inl (u, xs)))) => some (u, xs)
  | _ => none
/-- a field written; an array written -/
def lm_pf (h : lm_H) (o k : Nat) (v : Value) : lm_H := match h[o]? with
  | some (.inr (.inr (.inr (c, fs)))) => h.set o (.inr (.inr (.inr (c, fs.set k v))))
  | _ => h
def lm_pA (h : lm_H) (q u : Nat) (xs : List Int32) : lm_H := h.set q (.inl (u, xs))
def lm_pL (h : lm_H) (q : Nat) (xs : List Int64) : lm_H := h.set q (.inr (.inl xs))
section LMVW
variable {h : lm_H} {o q p k j u w c : Nat} {v : Value} {xs ys : List Int32} {ls ms : List Int64}
theorem lm_vK_obj (hK : lm_vK h o = some c) : ∃ fs, h[o]? = some (.inr (.inr (.inr (c, fs)))) := by
  unfold lm_vK at hK
  split at hK
  · rename_i c' fs hc
    cases hK
    exact ⟨fs, hc⟩
  · cases hK
theorem lm_vA_arr (hA : lm_vA h q u = some xs) : h[q]? = some (.inl (u, xs)) := by
  unfold lm_vA at hA
  split at hA
  · rename_i w ys hc
    cases e : Nat.beq w u with
    | true =>
      rw [e, cond_true] at hA
      cases hA
      rw [hc, Nat.eq_of_beq_eq_true e]
    | false => rw [e, cond_false] at hA; cases hA
  · cases hA
theorem lm_vL_arr (hL : lm_vL h q = some ls) : h[q]? = some (.inr (.inl ls)) := by
  unfold lm_vL at hL
  split at hL
  · rename_i ys hc
    cases hL
    exact hc
  · cases hL
theorem lm_vR_arr {xs : List (Option Nat)} (hR : lm_vR h q = some (u, xs)) : h[q]? = some (.inr (.inr (.inl (u, xs)))) := by
  unfold lm_vR at hR
  split at hR
  · rename_i w ys hc
    cases hR
    exact hc
  · cases hR
/-! read over write: a field -/
theorem lm_pf_len : (lm_pf h o k v).length = h.length := by
  unfold lm_pf
  split
  · rw [List.length_set]
  · rfl
theorem lm_pf_ne (hn : o ≠ q) : (lm_pf h o k v)[q]? = h[q]? := by
  unfold lm_pf
  split
  · exact lm_gs_ne hn _
  · rfl
theorem lm_pf_eq {fs : List Value} (ho : h[o]? = some (.inr (.inr (.inr (c, fs))))) : (lm_pf h o k v)[o]? = some (.inr (.inr (.inr (c, fs.set k v)))) := by
  unfold lm_pf
  rw [ho]
  exact lm_gs_eq ho _
theorem lm_vA_pf : lm_vA (lm_pf h o k v) q u = lm_vA h q u := by
  by_cases e : o = q
  · subst e
    unfold lm_pf
    split
    · rename_i c' fs hc
      unfold lm_vA
      rw [lm_gs_eq hc, hc]
    · rfl
  · unfold lm_vA
    rw [lm_pf_ne e]
theorem lm_vL_pf : lm_vL (lm_pf h o k v) q = lm_vL h q := by
  by_cases e : o = q
  · subst e
    unfold lm_pf
    split
    · rename_i c' fs hc
      unfold lm_vL
      rw [lm_gs_eq hc, hc]
    · rfl
  · unfold lm_vL
    rw [lm_pf_ne e]
theorem lm_vR_pf : lm_vR (lm_pf h o k v) q = lm_vR h q := by
  by_cases e : o = q
  · subst e
    unfold lm_pf
    split
    · rename_i c' fs hc
      unfold lm_vR
      rw [lm_gs_eq hc, hc]
    · rfl
  · unfold lm_vR
    rw [lm_pf_ne e]
theorem lm_vK_pf : lm_vK (lm_pf h o k v) q = lm_vK h q := by
  by_cases e : o = q
  · subst e
    unfold lm_pf
    split
    · rename_i c' fs hc
      unfold lm_vK
      rw [lm_gs_eq hc, hc]
    · rfl
  · unfold lm_vK
    rw [lm_pf_ne e]
theorem lm_vF_pf_ne (hn : ¬ (o = q ∧ k = j)) : lm_vF (lm_pf h o k v) q j = lm_vF h q j := by
  by_cases e : o = q
  · subst e
    unfold lm_pf
    split
    · rename_i c' fs hc
      unfold lm_vF
      rw [lm_gs_eq hc, hc]
      dsimp only
      rw [List.getElem?_set]
      simp [show ¬ k = j from fun h => hn ⟨rfl, h⟩]
    · rfl
  · unfold lm_vF
    rw [lm_pf_ne e]
theorem lm_vF_pf_eq {w : Value} (hF : lm_vF h o k = some w) : lm_vF (lm_pf h o k v) o k = some v := by
  unfold lm_vF at hF
  split at hF
  · rename_i c' fs hc
    unfold lm_vF
    rw [lm_pf_eq hc]
    dsimp only
    rw [List.getElem?_set]
    have := (List.getElem?_eq_some_iff.mp hF).1
    simp [this]
  · cases hF
/-! read over write: an array -/
theorem lm_vF_pA (hA : lm_vA h q u = some xs) : lm_vF (lm_pA h q u ys) o k = lm_vF h o k := by
  unfold lm_pA lm_vF
  by_cases e : q = o
  · subst e
    rw [lm_gs_eq (lm_vA_arr hA), lm_vA_arr hA]
  · rw [lm_gs_ne e]
theorem lm_vK_pA (hA : lm_vA h q u = some xs) : lm_vK (lm_pA h q u ys) o = lm_vK h o := by
  unfold lm_pA lm_vK
  by_cases e : q = o
  · subst e
    rw [lm_gs_eq (lm_vA_arr hA), lm_vA_arr hA]
  · rw [lm_gs_ne e]
theorem lm_vR_pA (hA : lm_vA h q u = some xs) : lm_vR (lm_pA h q u ys) o = lm_vR h o := by
  unfold lm_pA lm_vR
  by_cases e : q = o
  · subst e
    rw [lm_gs_eq (lm_vA_arr hA), lm_vA_arr hA]
  · rw [lm_gs_ne e]
theorem lm_vL_pA (hA : lm_vA h q u = some xs) : lm_vL (lm_pA h q u ys) o = lm_vL h o := by
  unfold lm_pA lm_vL
  by_cases e : q = o
  · subst e
    rw [lm_gs_eq (lm_vA_arr hA), lm_vA_arr hA]
  · rw [lm_gs_ne e]
theorem lm_vA_pA_eq (hA : lm_vA h q u = some xs) : lm_vA (lm_pA h q u ys) q u = some ys := by
  unfold lm_pA lm_vA
  rw [lm_gs_eq (lm_vA_arr hA)]
  dsimp only
  rw [Nat.beq_refl, cond_true]
theorem lm_vA_pA_ne (hn : q ≠ p) : lm_vA (lm_pA h q u ys) p w = lm_vA h p w := by
  unfold lm_pA lm_vA
  rw [lm_gs_ne hn]
theorem lm_pA_len : (lm_pA h q u ys).length = h.length := List.length_set ..
theorem lm_pL_len : (lm_pL h q ls).length = h.length := List.length_set ..
theorem lm_vF_pL (hL : lm_vL h q = some ls) : lm_vF (lm_pL h q ms) o k = lm_vF h o k := by
  unfold lm_pL lm_vF
  by_cases e : q = o
  · subst e
    rw [lm_gs_eq (lm_vL_arr hL), lm_vL_arr hL]
  · rw [lm_gs_ne e]
theorem lm_vK_pL (hL : lm_vL h q = some ls) : lm_vK (lm_pL h q ms) o = lm_vK h o := by
  unfold lm_pL lm_vK
  by_cases e : q = o
  · subst e
    rw [lm_gs_eq (lm_vL_arr hL), lm_vL_arr hL]
  · rw [lm_gs_ne e]
theorem lm_vR_pL (hL : lm_vL h q = some ls) : lm_vR (lm_pL h q ms) o = lm_vR h o := by
  unfold lm_pL lm_vR
  by_cases e : q = o
  · subst e
    rw [lm_gs_eq (lm_vL_arr hL), lm_vL_arr hL]
  · rw [lm_gs_ne e]
theorem lm_vA_pL (hL : lm_vL h q = some ls) : lm_vA (lm_pL h q ms) p u = lm_vA h p u := by
  unfold lm_pL lm_vA
  by_cases e : q = p
  · subst e
    rw [lm_gs_eq (lm_vL_arr hL), lm_vL_arr hL]
  · rw [lm_gs_ne e]
theorem lm_vL_pL_eq (hL : lm_vL h q = some ls) : lm_vL (lm_pL h q ms) q = some ms := by
  unfold lm_pL lm_vL
  rw [lm_gs_eq (lm_vL_arr hL)]
theorem lm_vL_pL_ne (hn : q ≠ p) : lm_vL (lm_pL h q ms) p = lm_vL h p := by
  unfold lm_pL lm_vL
  rw [lm_gs_ne hn]
/-! the operations, by views -/
variable {sc : lm_H} {s : Nat × Nat} {e : Nat}
theorem lm_oI {x : Int32} (hK : lm_vK h o = some c) (hF : lm_vF h o (e / 4 % 100) = some (.int x)) (hb : o < lm_B) (hs : lm_sub (e / 400) c = true) : lm_gI e o (h, s) = some (.ok x, (h, s)) := by
  obtain ⟨fs, hc⟩ := lm_vK_obj hK
  unfold lm_vF at hF
  rw [hc] at hF
  exact lm_gI_ok hc hb hs hF
theorem lm_oL {x : Int64} (hK : lm_vK h o = some c) (hF : lm_vF h o (e / 4 % 100) = some (.long x)) (hb : o < lm_B) (hs : lm_sub (e / 400) c = true) : lm_gL e o (h, s) = some (.ok x, (h, s)) := by
  obtain ⟨fs, hc⟩ := lm_vK_obj hK
  unfold lm_vF at hF
  rw [hc] at hF
  exact lm_gL_ok hc hb hs hF
theorem lm_oR {x : Nat} (hK : lm_vK h o = some c) (hF : lm_vF h o (e / 4 % 100) = some (.ref x)) (hb : o < lm_B) (hs : lm_sub (e / 400) c = true) : lm_gR e o (h, s) = some (.ok x, (h, s)) := by
  obtain ⟨fs, hc⟩ := lm_vK_obj hK
  unfold lm_vF at hF
  rw [hc] at hF
  exact lm_gR_ok hc hb hs hF
theorem lm_oP {w : Value} (hK : lm_vK h o = some c) (hF : lm_vF h o (e / 4 % 100) = some w) (hb : o < lm_B) (hs : lm_sub (e / 400) c = true) (hv : lm_fits (e % 4) v = true) : lm_putf e o v (h, s) = some (.ok (), (lm_pf h o (e / 4 % 100) v, s)) := by
  obtain ⟨fs, hc⟩ := lm_vK_obj hK
  unfold lm_vF at hF
  rw [hc] at hF
  have hl := (List.getElem?_eq_some_iff.mp hF).1
  rw [lm_putf_ok hc hb hs (Nat.blt_eq.mpr hl) hv]
  unfold lm_pf
  rw [hc]
theorem lm_oib {a : Nat} (hA : lm_vA h q 1 = some xs) (hb : q < lm_B) (ha : a < xs.length) (hn : xs.length ≤ 1000000) : lm_bald sc q (Int32.ofNat a) (h, s) = some (.ok (xs.getD a 0), (h, s)) := lm_bald_ok ((lm_cell_h hb).trans (lm_vA_arr hA)) ha hn
theorem lm_oii {a : Nat} (hA : lm_vA h q 0 = some xs) (hb : q < lm_B) (ha : a < xs.length) (hn : xs.length ≤ 1000000) : lm_iald sc q (Int32.ofNat a) (h, s) = some (.ok (xs.getD a 0), (h, s)) := lm_iald_ok ((lm_cell_h hb).trans (lm_vA_arr hA)) ha hn
theorem lm_oil {a : Nat} (hL : lm_vL h q = some ls) (hb : q < lm_B) (ha : a < ls.length) (hn : ls.length ≤ 1000000) : lm_lald sc q (Int32.ofNat a) (h, s) = some (.ok (ls.getD a 0), (h, s)) := lm_lald_ok ((lm_cell_h hb).trans (lm_vL_arr hL)) ha hn
theorem lm_osb {a : Nat} {x : Int32} (hA : lm_vA h q 1 = some xs) (hb : q < lm_B) (ha : a < xs.length) (hn : xs.length ≤ 1000000) : lm_bast q (Int32.ofNat a) x (h, s) = some (.ok (), (lm_pA h q 1 (xs.set a (vp_nar .byte x)), s)) := lm_bast_ok (lm_vA_arr hA) hb ha hn
theorem lm_osi {a : Nat} {x : Int32} (hA : lm_vA h q 0 = some xs) (hb : q < lm_B) (ha : a < xs.length) (hn : xs.length ≤ 1000000) : lm_iast q (Int32.ofNat a) x (h, s) = some (.ok (), (lm_pA h q 0 (xs.set a x), s)) := lm_iast_ok (lm_vA_arr hA) hb ha hn
theorem lm_osl {a : Nat} {x : Int64} (hL : lm_vL h q = some ls) (hb : q < lm_B) (ha : a < ls.length) (hn : ls.length ≤ 1000000) : lm_last q (Int32.ofNat a) x (h, s) = some (.ok (), (lm_pL h q (ls.set a x), s)) := lm_last_ok (lm_vL_arr hL) hb ha hn
theorem lm_osel {vt : List (Nat × Nat)} {y : Nat} (hK : lm_vK h o = some c) (hb : o < lm_B) (hf : lm_find vt (some c) = some y) : lm_sel vt (some (.ref o)) (h, s) = some (.ok y, (h, s)) := by
  obtain ⟨fs, hc⟩ := lm_vK_obj hK
  unfold lm_sel
  dsimp only
  unfold lm_cls
  rw [hc]
  dsimp only
  rw [if_pos hb, hf]
theorem lm_oaa {rs : List (Option Nat)} {a r : Nat} (hR : lm_vR h q = some (u, rs)) (hb : q < lm_B) (hu : 3 ≤ u ∧ u ≤ 6) (ha : rs[a]? = some (some r)) (hn : rs.length ≤ 1000000) : lm_aaR sc q (Int32.ofNat a) (h, s) = some (.ok r, (h, s)) := by
  have hl := (List.getElem?_eq_some_iff.mp ha).1
  obtain ⟨h1, h2⟩ := lm_ix hl (Nat.le_succ_of_le hn)
  unfold lm_aaR
  have h3 : lm_aald sc q (Int32.ofNat a) (h, s) = some (.ok (some r), (h, s)) := by
    unfold lm_aald
    dsimp only
    rw [lm_cell_h hb, lm_vR_arr hR]
    dsimp only
    rw [h2, if_pos ⟨hu, h1, hl⟩, List.getD_eq_getElem?_getD, ha]
    rfl
  rw [lm_bd_ok h3]
  rfl
end LMVW
