/-! ===== RULES FOR RUNS: what each operation does to a state ===== -/
section LMP
variable {α : Type} {sc h : lm_H} {s : Nat × Nat} {q p : Nat} {c : lm_C}
theorem lm_gs_eq (hq : h[q]? = some c) (c' : lm_C) : (h.set q c')[q]? = some c' := by
  have := (List.getElem?_eq_some_iff.mp hq).1
  rw [List.getElem?_set]
  simp [this]
theorem lm_gs_ne (hn : q ≠ p) (c' : lm_C) : (h.set q c')[p]? = h[p]? := by
  rw [List.getElem?_set]
  simp [hn]
theorem lm_ss (c c' : lm_C) : (h.set q c).set q c' = h.set q c' := List.set_set ..
theorem lm_sid (hq : h[q]? = some c) : h.set q c = h := by
  apply List.ext_getElem?
  intro i
  by_cases e : q = i
  · subst e; rw [lm_gs_eq hq, hq]
  · rw [lm_gs_ne e]
theorem lm_bd_ret {β : Type} (a : α) (f : α → lm_M β) : lm_bind (lm_ret a) f = f a := rfl
theorem lm_bd_ok {β : Type} {x : lm_M α} {f : α → lm_M β} {σ t : lm_S} {a : α} (hx : x σ = some (.ok a, t)) : lm_bind x f σ = f a t := by
  unfold lm_bind
  rw [hx]
theorem lm_bd_err {β : Type} {x : lm_M α} {f : α → lm_M β} {σ t : lm_S} {e : Nat} (hx : x σ = some (.error e, t)) : lm_bind x f σ = some (.error e, t) := by
  unfold lm_bind
  rw [hx]
theorem lm_asI_ok {x : lm_M lm_R} {σ t : lm_S} {v : Int32} (hx : x σ = some (.ok (some (.int v)), t)) : lm_asI x σ = some (.ok v, t) := by
  unfold lm_asI
  rw [lm_bd_ok hx]
  rfl
theorem lm_asL_ok {x : lm_M lm_R} {σ t : lm_S} {v : Int64} (hx : x σ = some (.ok (some (.long v)), t)) : lm_asL x σ = some (.ok v, t) := by
  unfold lm_asL
  rw [lm_bd_ok hx]
  rfl
theorem lm_asR_ok {x : lm_M lm_R} {σ t : lm_S} {v : Nat} (hx : x σ = some (.ok (some (.ref v)), t)) : lm_asR x σ = some (.ok v, t) := by
  unfold lm_asR
  rw [lm_bd_ok hx]
  rfl
theorem lm_asV_ok {x : lm_M lm_R} {σ t : lm_S} (hx : x σ = some (.ok none, t)) : lm_asV x σ = some (.ok (), t) := by
  unfold lm_asV
  rw [lm_bd_ok hx]
  rfl
/-! fields -/
theorem lm_getf_ok {e k : Nat} {fs : List Value} {v : Value} (hq : h[q]? = some (.inr (.inr (.inr (k, fs))))) (hb : q < lm_B) (hs : lm_sub (e / 400) k = true) (hf : fs[e / 4 % 100]? = some v) : lm_getf e q (h, s) = some (.ok v, (h, s)) := by
  unfold lm_getf
  dsimp only
  rw [hq]
  dsimp only
  rw [if_pos ⟨hb, hs⟩, hf]
theorem lm_gI_ok {e k : Nat} {fs : List Value} {v : Int32} (hq : h[q]? = some (.inr (.inr (.inr (k, fs))))) (hb : q < lm_B) (hs : lm_sub (e / 400) k = true) (hf : fs[e / 4 % 100]? = some (.int v)) : lm_gI e q (h, s) = some (.ok v, (h, s)) := by
  unfold lm_gI
  rw [lm_bd_ok (lm_getf_ok hq hb hs hf)]
  rfl
theorem lm_gL_ok {e k : Nat} {fs : List Value} {v : Int64} (hq : h[q]? = some (.inr (.inr (.inr (k, fs))))) (hb : q < lm_B) (hs : lm_sub (e / 400) k = true) (hf : fs[e / 4 % 100]? = some (.long v)) : lm_gL e q (h, s) = some (.ok v, (h, s)) := by
  unfold lm_gL
  rw [lm_bd_ok (lm_getf_ok hq hb hs hf)]
  rfl
theorem lm_gR_ok {e k : Nat} {fs : List Value} {v : Nat} (hq : h[q]? = some (.inr (.inr (.inr (k, fs))))) (hb : q < lm_B) (hs : lm_sub (e / 400) k = true) (hf : fs[e / 4 % 100]? = some (.ref v)) : lm_gR e q (h, s) = some (.ok v, (h, s)) := by
  unfold lm_gR
  rw [lm_bd_ok (lm_getf_ok hq hb hs hf)]
  rfl
theorem lm_putf_ok {e k : Nat} {fs : List Value} {v : Value} (hq : h[q]? = some (.inr (.inr (.inr (k, fs))))) (hb : q < lm_B) (hs : lm_sub (e / 400) k = true) (hf : Nat.blt (e / 4 % 100) fs.length = true) (hv : lm_fits (e % 4) v = true) : lm_putf e q v (h, s) = some (.ok (), (h.set q (.inr (.inr (.inr (k, fs.set (e / 4 % 100) v)))), s)) := by
  unfold lm_putf
  dsimp only
  rw [hq]
  dsimp only
  rw [if_pos ⟨hb, hs, Nat.blt_eq.mp hf, hv⟩]
/-! arrays: an index that is a natural number -/
theorem lm_ix {a n : Nat} (ha : a < n) (hn : n ≤ 1000001) : ¬ Int32.ofNat a < 0 ∧ (Int32.ofNat a).toNatClampNeg = a := by
  have h1 : (Int32.ofNat a).toInt = a := by
    rw [Int32.toInt_ofNat']
    have e : Int32.size = 4294967296 := rfl
    exact Int.bmod_eq_of_le (by rw [e]; omega) (by rw [e]; omega)
  refine ⟨fun h2 => ?_, ?_⟩
  · rw [Int32.lt_iff_toInt_lt, h1] at h2
    have : (0 : Int32).toInt = 0 := rfl
    omega
  · show (Int32.ofNat a).toInt.toNat = a
    rw [h1]
    rfl
theorem lm_iald_ok {xs : List Int32} {a : Nat} (hq : lm_cell sc h q = some (.inl (0, xs))) (ha : a < xs.length) (hn : xs.length ≤ 1000000) : lm_iald sc q (Int32.ofNat a) (h, s) = some (.ok (xs.getD a 0), (h, s)) := by
  obtain ⟨h1, h2⟩ := lm_ix ha (Nat.le_succ_of_le hn)
  unfold lm_iald
  dsimp only
  rw [hq]
  dsimp only
  rw [h2, if_pos ⟨rfl, h1, ha⟩]
theorem lm_bald_ok {xs : List Int32} {a : Nat} (hq : lm_cell sc h q = some (.inl (1, xs))) (ha : a < xs.length) (hn : xs.length ≤ 1000000) : lm_bald sc q (Int32.ofNat a) (h, s) = some (.ok (xs.getD a 0), (h, s)) := by
  obtain ⟨h1, h2⟩ := lm_ix ha (Nat.le_succ_of_le hn)
  unfold lm_bald
  dsimp only
  rw [hq]
  dsimp only
  rw [h2, if_pos ⟨Or.inl rfl, h1, ha⟩]
theorem lm_lald_ok {xs : List Int64} {a : Nat} (hq : lm_cell sc h q = some (.inr (.inl xs))) (ha : a < xs.length) (hn : xs.length ≤ 1000000) : lm_lald sc q (Int32.ofNat a) (h, s) = some (.ok (xs.getD a 0), (h, s)) := by
  obtain ⟨h1, h2⟩ := lm_ix ha (Nat.le_succ_of_le hn)
  unfold lm_lald
  dsimp only
  rw [hq]
  dsimp only
  rw [h2, if_pos ⟨h1, ha⟩]
theorem lm_cell_h (hb : q < lm_B) : lm_cell sc h q = h[q]? := if_pos hb
theorem lm_cell_s (k : Nat) : lm_cell sc h (lm_B + k) = sc[k]? := by
  have h1 : ∀ B : Nat, (if B + k < B then h[B + k]? else sc[B + k - B]?) = sc[k]? := fun B => by
    rw [if_neg (Nat.not_lt.mpr (Nat.le_add_right _ _)), Nat.add_sub_cancel_left]
  exact h1 lm_B
theorem lm_iast_ok {xs : List Int32} {a : Nat} {x : Int32} (hq : h[q]? = some (.inl (0, xs))) (hb : q < lm_B) (ha : a < xs.length) (hn : xs.length ≤ 1000000) : lm_iast q (Int32.ofNat a) x (h, s) = some (.ok (), (h.set q (.inl (0, xs.set a x)), s)) := by
  obtain ⟨h1, h2⟩ := lm_ix ha (Nat.le_succ_of_le hn)
  unfold lm_iast
  rw [if_pos hb]
  dsimp only
  rw [hq]
  dsimp only
  rw [h2, if_pos ⟨rfl, h1, ha⟩]
theorem lm_bast_ok {xs : List Int32} {a : Nat} {x : Int32} (hq : h[q]? = some (.inl (1, xs))) (hb : q < lm_B) (ha : a < xs.length) (hn : xs.length ≤ 1000000) : lm_bast q (Int32.ofNat a) x (h, s) = some (.ok (), (h.set q (.inl (1, xs.set a (vp_nar .byte x))), s)) := by
  obtain ⟨h1, h2⟩ := lm_ix ha (Nat.le_succ_of_le hn)
  unfold lm_bast
  rw [if_pos hb]
  dsimp only
  rw [hq]
  dsimp only
  rw [h2, if_pos ⟨Or.inl rfl, h1, ha⟩, if_pos rfl]
theorem lm_last_ok {xs : List Int64} {a : Nat} {x : Int64} (hq : h[q]? = some (.inr (.inl xs))) (hb : q < lm_B) (ha : a < xs.length) (hn : xs.length ≤ 1000000) : lm_last q (Int32.ofNat a) x (h, s) = some (.ok (), (h.set q (.inr (.inl (xs.set a x))), s)) := by
  obtain ⟨h1, h2⟩ := lm_ix ha (Nat.le_succ_of_le hn)
  unfold lm_last
  rw [if_pos hb]
  dsimp only
  rw [hq]
  dsimp only
  rw [h2, if_pos ⟨h1, ha⟩]
end LMP
