/-! ===== dsaKeys of the class: keys ===== -/
theorem lm_gs_ext {K K' : Nat → Int32} {a a' : Nat} {w1 w2 : Int32} (h : ∀ i, i < 32 → lm_b8 (K (a + i)) = lm_b8 (K' (a' + i))) : ln_gs K a w1 w2 = ln_gs K' a' w1 w2 := by
  funext i
  unfold ln_gs
  by_cases c : i < 32
  · rw [if_pos c, if_pos c, h i c]
  · rw [if_neg c, if_neg c]
theorem lm_xA_ext {C : lm_CX} {K K' : Nat → Int32} {a a' i j : Nat} (h : ∀ i, i < 32 → lm_b8 (K (a + i)) = lm_b8 (K' (a' + i))) : lm_xA C K a i j = lm_xA C K' a' i j := by
  unfold lm_xA
  rw [lm_gs_ext h]
theorem lm_xS_ext {C : lm_CX} {K K' : Nat → Int32} {e t : Nat} (h : ∀ i, i < 64 → lm_b8 (K (32 + i)) = lm_b8 (K' (32 + i))) : lm_xS C K e t = lm_xS C K' e t := by
  unfold lm_xS
  have : ln_g6 K 32 (Int32.ofNat t) = ln_g6 K' 32 (Int32.ofNat t) := by
    funext i
    unfold ln_g6
    by_cases c : i < 64
    · rw [if_pos c, if_pos c, h i c]
    · rw [if_neg c, if_neg c]
  rw [this]
/-- the seeds -/
def lm_xE (C : lm_CX) (R : Nat → Int32) (s : Nat) : Nat → Int32 := lm_Hm C 12 (ln_gs R 0 (Int32.ofNat (lm_dk s)) (Int32.ofNat (lm_dl s))) 34
def lm_xok (C : lm_CX) (E : Nat → Int32) (s : Nat) : Prop := (∀ i j, i < lm_dk s → j < lm_dl s → (lm_xA C E 0 i j).1 = 256) ∧ ∀ t, t < lm_dl s + lm_dk s → (lm_xS C E (lm_de s) t).1 = 256
def lm_xAm (C : lm_CX) (E : Nat → Int32) (i t c : Nat) : Int := ((lm_xA C E 0 i t).2 c : Nat)
def lm_xV (C : lm_CX) (E : Nat → Int32) (s t c : Nat) : Int := (lm_xS C E (lm_de s) t).2 c
def lm_xR (C : lm_CX) (E : Nat → Int32) (s i c : Nat) : Nat := lm_yR (lm_xAm C E) (lm_xV C E s) (lm_dl s) i c
def lm_xpub (C : lm_CX) (E : Nat → Int32) (s j : Nat) : Nat := if j < 32 then lm_yb (E j) else lm_pkB (fun i c => (lm_tH (lm_xR C E s i c) : Nat)) 10 (j - 32)
def lm_xb1 (s : Nat) : Nat := 128 + 32 * lm_xb s * (lm_dl s + lm_dk s)
def lm_xH (C : lm_CX) (E : Nat → Int32) (s : Nat) : Nat → Int32 := lm_Hm C 12 (fun t => lm_b8 (Int32.ofNat (lm_xpub C E s t))) (32 + 320 * lm_dk s)
def lm_xsec (C : lm_CX) (E : Nat → Int32) (s j : Nat) : Nat := if j < 32 then lm_yb (E j) else if j < 64 then lm_yb (E (64 + j)) else if j < 128 then lm_yb (lm_xH C E s (j - 64)) else if j < lm_xb1 s then lm_pkB (fun t c => (lm_de s : Int) - lm_xV C E s t c) (lm_xb s) (j - 128) else lm_pkB (fun i c => 4096 - lm_tL (lm_xR C E s i c)) 13 (j - lm_xb1 s)
theorem lm_xpub_lt {C : lm_CX} {E : Nat → Int32} {s j : Nat} : lm_xpub C E s j < 256 := by
  unfold lm_xpub
  split
  · exact lm_yb_lt _
  · exact lm_pkB_lt
theorem lm_xsz : ∀ s, s ≤ 2 → lm_dss s = lm_xb1 s + 416 * lm_dk s ∧ lm_xb1 s ≤ 2048 := by decide
section LMDM
variable {xs : List Int32} {C : lm_CX} {d s : Nat} {m m0 : lm_MI} {n n0 : lm_ML} {x : lm_H × Nat × Nat}
theorem lm_u173' (h : m 76 18 = Int32.ofNat (lm_dk s)) {sc : lm_H} : lm_cal sc (d + 1) 173 [.ref 76] (lm_w m n x) = some (.ok (some (.int (Int32.ofNat (32 + 320 * lm_dk s)))), lm_w m n x) := by
  refine lm_cal_of (Y := lm_m173) rfl rfl (lm_e173_0 ?_)
  unfold lm_q173_0
  repeat (first
    | ((with_reducible apply lm_sI); exact rfl)
    | ((with_reducible apply lm_sR); exact rfl)
    | ((with_reducible apply lm_sS); exact rfl; exact rfl)
    | ((with_reducible apply lm_sL); exact rfl)
    | ((with_reducible apply lm_sP); exact rfl; exact rfl)
    | ((with_reducible apply lm_sPL); exact rfl; exact rfl)
    | ((with_reducible apply lm_sAA); exact rfl; exact rfl)
    | ((with_reducible apply lm_sA); (first | exact rfl | assumption); omega)
    | ((with_reducible apply lm_sJ); (first | exact rfl | assumption); omega)
    | ((with_reducible apply lm_sB); (first | exact rfl | assumption); omega)
    | ((with_reducible apply lm_wA); (first | exact rfl | assumption); omega)
    | ((with_reducible apply lm_wJ); (first | exact rfl | assumption); omega)
    | ((with_reducible apply lm_wB); (first | exact rfl | assumption); omega)
    | ((with_reducible apply lm_sAl); (first | exact rfl | assumption); omega)
    | ((with_reducible apply lm_iW); decide))
  simp only [Nat.reduceDiv, Nat.reduceMod]
  rw [h, lm_K320, lm_K32, lm_om, lm_oo]
  rfl
theorem lm_xsz2 : ∀ s, s ≤ 2 → 128 + 32 * ((lm_dk s + lm_dl s) * (if lm_de s = 2 then 3 else 4) + 13 * lm_dk s) = lm_dss s := by decide
theorem lm_u169' (hs : s ≤ 2) (h : lm_DC m s) : lm_cal (lm_sc xs) (d + 2) 169 [.ref 76] (lm_w m n x) = some (.ok (some (.int (Int32.ofNat (lm_dss s)))), lm_w m n x) := by
  refine lm_cal_of (Y := lm_m169) rfl rfl (lm_e169_0 ?_)
  unfold lm_q169_0
  repeat (first
    | ((with_reducible apply lm_sI); exact rfl)
    | ((with_reducible apply lm_sR); exact rfl)
    | ((with_reducible apply lm_sS); exact rfl; exact rfl)
    | ((with_reducible apply lm_sL); exact rfl)
    | ((with_reducible apply lm_sP); exact rfl; exact rfl)
    | ((with_reducible apply lm_sPL); exact rfl; exact rfl)
    | ((with_reducible apply lm_sAA); exact rfl; exact rfl)
    | ((with_reducible apply lm_sA); (first | exact rfl | assumption); omega)
    | ((with_reducible apply lm_sJ); (first | exact rfl | assumption); omega)
    | ((with_reducible apply lm_sB); (first | exact rfl | assumption); omega)
    | ((with_reducible apply lm_wA); (first | exact rfl | assumption); omega)
    | ((with_reducible apply lm_wJ); (first | exact rfl | assumption); omega)
    | ((with_reducible apply lm_wB); (first | exact rfl | assumption); omega)
    | ((with_reducible apply lm_sAl); (first | exact rfl | assumption); omega)
    | ((with_reducible apply lm_iW); decide))
  refine lm_cI (lm_u234 (d := d) hs h.1) ?_
  repeat (first
    | ((with_reducible apply lm_sI); exact rfl)
    | ((with_reducible apply lm_sR); exact rfl)
    | ((with_reducible apply lm_sS); exact rfl; exact rfl)
    | ((with_reducible apply lm_sL); exact rfl)
    | ((with_reducible apply lm_sP); exact rfl; exact rfl)
    | ((with_reducible apply lm_sPL); exact rfl; exact rfl)
    | ((with_reducible apply lm_sAA); exact rfl; exact rfl)
    | ((with_reducible apply lm_sA); (first | exact rfl | assumption); omega)
    | ((with_reducible apply lm_sJ); (first | exact rfl | assumption); omega)
    | ((with_reducible apply lm_sB); (first | exact rfl | assumption); omega)
    | ((with_reducible apply lm_wA); (first | exact rfl | assumption); omega)
    | ((with_reducible apply lm_wJ); (first | exact rfl | assumption); omega)
    | ((with_reducible apply lm_wB); (first | exact rfl | assumption); omega)
    | ((with_reducible apply lm_sAl); (first | exact rfl | assumption); omega)
    | ((with_reducible apply lm_iW); decide))
  simp only [Nat.reduceDiv, Nat.reduceMod]
  rw [h.2.1, h.2.2, lm_K128, lm_K32, lm_K13, lm_oo, lm_om, lm_om, lm_oo, lm_om, lm_oo, lm_xsz2 s hs]
  rfl
end LMDM
