/-! ===== FRAMES: what a run may have changed ===== -/
/-- only the arrays of A and the fields of F may have changed; the shape is kept -/
def lm_Fr (A : List Nat) (F : List (Nat × Nat)) (h h' : lm_H) : Prop := h'.length = h.length ∧ (lm_Sh h → lm_Sh h') ∧ (∀ p u, p ∉ A → lm_vA h' p u = lm_vA h p u) ∧ (∀ p, p ∉ A → lm_vL h' p = lm_vL h p) ∧ ∀ o k, (o, k) ∉ F → lm_vF h' o k = lm_vF h o k
section LMFR
variable {h h1 h2 : lm_H} {A B : List Nat} {F G : List (Nat × Nat)} {o q k u n c : Nat}
theorem lm_Fr.rf : lm_Fr [] [] h h := ⟨rfl, id, fun _ _ _ => rfl, fun _ _ => rfl, fun _ _ _ => rfl⟩
theorem lm_Fr.tr (a : lm_Fr A F h h1) (b : lm_Fr B G h1 h2) : lm_Fr (A ++ B) (F ++ G) h h2 := by
  refine ⟨b.1.trans a.1, fun hS => b.2.1 (a.2.1 hS), fun p u hp => ?_, fun p hp => ?_, fun o k hp => ?_⟩
  · rw [List.mem_append, not_or] at hp
    exact (b.2.2.1 p u hp.2).trans (a.2.2.1 p u hp.1)
  · rw [List.mem_append, not_or] at hp
    exact (b.2.2.2.1 p hp.2).trans (a.2.2.2.1 p hp.1)
  · rw [List.mem_append, not_or] at hp
    exact (b.2.2.2.2 o k hp.2).trans (a.2.2.2.2 o k hp.1)
theorem lm_Fr.mono (a : lm_Fr A F h h1) (hA : ∀ p ∈ A, p ∈ B) (hF : ∀ p ∈ F, p ∈ G) : lm_Fr B G h h1 :=
  ⟨a.1, a.2.1, fun p u hp => a.2.2.1 p u fun h => hp (hA p h), fun p hp => a.2.2.2.1 p fun h => hp (hA p h), fun o k hp => a.2.2.2.2 o k fun h => hp (hF _ h)⟩
theorem lm_Fr.ofA {xs ys : List Int32} (hA : lm_vA h q u = some xs) (ht : lm_shp[q]? = some (.inl (u, n))) (hl : ys.length = n) (b1 : u = 1 → lm_by ys) (b2 : u = 2 → ∀ x ∈ ys, ∃ b, x = lm_z b) : lm_Fr [q] [] h (lm_pA h q u ys) :=
  ⟨lm_pA_len, fun hS => hS.pA ht hl b1 b2, fun p w hp => lm_vA_pA_ne fun e => hp (by simp [e]), fun p _ => lm_vL_pA hA, fun o k _ => lm_vF_pA hA⟩
theorem lm_Fr.ofL {xs ys : List Int64} (hA : lm_vL h q = some xs) (ht : lm_shp[q]? = some (.inr (.inl n))) (hl : ys.length = n) : lm_Fr [q] [] h (lm_pL h q ys) :=
  ⟨lm_pL_len, fun hS => hS.pL ht hl, fun p w _ => lm_vA_pL hA, fun p hp => lm_vL_pL_ne fun e => hp (by simp [e]), fun o k _ => lm_vF_pL hA⟩
theorem lm_Fr.ofF {ps : List Nat} {r : Nat} {v : Value} (ht : lm_shp[o]? = some (.inr (.inr (.inr (c, ps))))) (hr : ps[k]? = some r) (hv : lm_fok r v) : lm_Fr [] [(o, k)] h (lm_pf h o k v) :=
  ⟨lm_pf_len, fun hS => hS.pf ht hr hv, fun p w _ => lm_vA_pf, fun p _ => lm_vL_pf, fun o' k' hp => lm_vF_pf_ne fun e => hp (by simp [e.1, e.2])⟩
end LMFR
