/-! ===== dsaKeys of the reference: the row's sum is not negative ===== -/
theorem lm_as_rg {A W : Nat → Nat → Int} {l : Nat} (hA : ∀ t, t < l → ∀ c, c < 256 → 0 ≤ A t c) (hW : ∀ t, t < l → ∀ c, c < 256 → 0 ≤ W t c) : ∀ t, t ≤ l → lm_rg 8380416 (lm_as A W t) := by
  intro t
  induction t with
  | zero => intro _ c _; show 0 ≤ (0 : Int) ∧ (0 : Int) ≤ 8380416; decide
  | succ t ih =>
    intro ht c hc
    have h1 := ih (by omega) c hc
    have h2 := Int.mul_nonneg (hA t (by omega) c hc) (hW t (by omega) c hc)
    have h3 := lm_tmb (a := lm_as A W t c + A t c * W t c) (show (0 : Int) < 8380417 by decide)
    have h4 := Int.tmod_nonneg 8380417 (a := lm_as A W t c + A t c * W t c) (by omega)
    show 0 ≤ (lm_as A W t c + A t c * W t c).tmod 8380417 ∧ (lm_as A W t c + A t c * W t c).tmod 8380417 ≤ 8380416
    omega
