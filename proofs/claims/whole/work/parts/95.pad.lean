/-! ===== the end of a message, as blocks ===== -/
/-- the i-th byte of the length, the lowest first -/
def lm_gl (bits : Int64) (i : Nat) : Int32 := if 8 ≤ i then Int32.ofInt 0 else Int64.toInt32 (lm_uL bits (Int32.ofNat (8 * i)))
section LMPD
variable {T : lm_TB} {k r : Nat}
theorem lm_hps_sh {g : Nat → Int32} {s : Nat} : ∀ c a (h : lm_HV), lm_hps T k r g c (a + s) h = lm_hps T k r (fun t => g (t + s)) c a h := by
  intro c
  induction c with
  | zero => intro a h; rfl
  | succ c ih =>
    intro a h
    show lm_hps T k r g c (a + s + 1) _ = lm_hps T k r (fun t => g (t + s)) c (a + 1) _
    rw [show a + s + 1 = a + 1 + s by omega]
    exact ih (a + 1) _
theorem lm_hps_cat {g1 g2 : Nat → Int32} {c1 c2 : Nat} {h : lm_HV} : lm_hps T k r g2 c2 0 (lm_hps T k r g1 c1 0 h) = lm_hps T k r (fun t => if t < c1 then g1 t else g2 (t - c1)) (c1 + c2) 0 h := by
  rw [lm_hps_add, lm_hps_ext (g := g1) (g' := fun t => if t < c1 then g1 t else g2 (t - c1)) c1 0 h (fun i _ hi => by rw [if_pos (by omega)])]
  rw [lm_hps_sh (g := fun t => if t < c1 then g1 t else g2 (t - c1)) (s := c1) c2 0]
  exact lm_hps_ext c2 0 _ (fun i _ _ => by
    show g2 i = if i + c1 < c1 then g1 (i + c1) else g2 (i + c1 - c1)
    rw [if_neg (by omega), Nat.add_sub_cancel])
theorem lm_hp_f {v : Int32} {h : lm_HV} : (lm_hp T k r v h).1 = if h.1 + 1 = r then 0 else h.1 + 1 := by
  unfold lm_hp
  by_cases g : h.1 + 1 = r
  · rw [if_pos g, if_pos g]
  · rw [if_neg g, if_neg g]
/-- how many zeros until c -/
def lm_zc (r c f : Nat) : Nat := if f ≤ c then c - f else r - f + c
theorem lm_hz_eq {c : Nat} (hc : c < r) : ∀ j (h : lm_HV), h.1 < r → lm_zc r c h.1 ≤ j → lm_hz T k r c j h = lm_hps T k r (fun _ => Int32.ofInt 0) (lm_zc r c h.1) 0 h := by
  intro j
  induction j with
  | zero =>
    intro h hf hj
    have e : lm_zc r c h.1 = 0 := by omega
    rw [e]
    rfl
  | succ j ih =>
    intro h hf hj
    unfold lm_hz
    by_cases e : h.1 = c
    · rw [if_pos e, show lm_zc r c h.1 = 0 by unfold lm_zc; rw [if_pos (by omega)]; omega]
      rfl
    · rw [if_neg e]
      have e2 : lm_zc r c h.1 = lm_zc r c (lm_hp T k r (Int32.ofInt 0) h).1 + 1 := by
        rw [lm_hp_f]
        unfold lm_zc
        by_cases g : h.1 + 1 = r
        · rw [if_pos g, if_neg (by omega), if_pos (by omega)]; omega
        · rw [if_neg g]
          by_cases g2 : h.1 ≤ c
          · rw [if_pos g2, if_pos (by omega)]; omega
          · rw [if_neg g2, if_neg (by omega)]; omega
      rw [ih _ (lm_hp_lt hf) (by omega), e2]
      show _ = lm_hps T k r (fun _ => Int32.ofInt 0) _ (0 + 1) (lm_hp T k r (Int32.ofInt 0) h)
      rw [lm_hps_sh (s := 1)]
theorem lm_hl_eq {bits : Int64} : ∀ i (h : lm_HV), lm_hl T k r bits i h = lm_hps T k r (fun t => lm_gl bits (i - 1 - t)) i 0 h := by
  intro i
  induction i with
  | zero => intro h; rfl
  | succ i ih =>
    intro h
    show lm_hl T k r bits i (lm_hp T k r (lm_gl bits i) h) = lm_hps T k r _ i (0 + 1) (lm_hp T k r (lm_gl bits (i + 1 - 1 - 0)) h)
    rw [ih, lm_hps_sh (s := 1), show i + 1 - 1 - 0 = i by omega]
    exact lm_hps_ext i 0 _ (fun t _ ht => by rw [show i - 1 - t = i + 1 - 1 - (t + 1) by omega])
/-- the bytes behind the message -/
def lm_gp (r z : Nat) (bits : Int64) (t : Nat) : Int32 := if t < 1 + z then (if t < 1 then Int32.ofInt 128 else Int32.ofInt 0) else lm_gl bits (r / 8 - 1 - (t - (1 + z)))
theorem lm_hf_eq {h : lm_HV} (hk : ¬ 6 < k) (hr : r = 64 ∨ r = 128) (hf : h.1 < r) : lm_hf T k r h = lm_hps T k r (lm_gp r (lm_zc r (r - r / 8) (if h.1 + 1 = r then 0 else h.1 + 1)) ((Int64.ofNat 8) * h.2.1)) (1 + lm_zc r (r - r / 8) (if h.1 + 1 = r then 0 else h.1 + 1) + r / 8) 0 h := by
  unfold lm_hf
  rw [if_neg hk, lm_hl_eq]
  have hz : lm_zc r (r - r / 8) (lm_hp T k r (Int32.ofInt 128) h).1 ≤ 2 * r := by unfold lm_zc; split <;> omega
  rw [lm_hz_eq (by omega) (2 * r) _ (lm_hp_lt hf) hz, lm_hp_f]
  generalize lm_zc r (r - r / 8) (if h.1 + 1 = r then 0 else h.1 + 1) = z
  show lm_hps T k r _ (r / 8) 0 (lm_hps T k r (fun _ => Int32.ofInt 0) z 0 (lm_hps T k r (fun _ => Int32.ofInt 128) 1 0 h)) = _
  rw [lm_hps_cat, lm_hps_cat]
  rw [Nat.add_assoc]
  refine lm_hps_ext _ 0 _ (fun t _ _ => ?_)
  unfold lm_gp
  show (if t < 1 then _ else if t - 1 < z then _ else _) = _
  by_cases c : t < 1
  · rw [if_pos c, if_pos (by omega), if_pos c]
  · rw [if_neg c]
    by_cases c2 : t - 1 < z
    · rw [if_pos c2, if_pos (by omega), if_neg c]
    · rw [if_neg c2, if_neg (by omega), show t - 1 - z = t - (1 + z) by omega]
/-- the block behind a message that leaves room -/
def lm_bA (r : Nat) (h : lm_HV) (i : Nat) : Int32 := if i < h.1 then h.2.2.2 i else if i = h.1 then Int32.ofInt 128 else if i < r - r / 8 then Int32.ofInt 0 else lm_gl ((Int64.ofNat 8) * h.2.1) (r - 1 - i)
/-- the first of two -/
def lm_bB (h : lm_HV) (i : Nat) : Int32 := if i < h.1 then h.2.2.2 i else if i = h.1 then Int32.ofInt 128 else Int32.ofInt 0
/-- the second -/
def lm_bC (r : Nat) (bits : Int64) (i : Nat) : Int32 := if i < r - r / 8 then Int32.ofInt 0 else lm_gl bits (r - 1 - i)
theorem lm_cpr_lo {S S' : Nat → Int64} {b b' : Nat → Int32} (hk : ¬ 6 < k) (hr : r = 64 ∨ r = 128) (hS : ∀ i, i < 8 → S i = S' i) (h : ∀ i, i < r → lm_b8 (b i) = lm_b8 (b' i)) : ∀ i, i < 8 → lm_cpr T k r S b i = lm_cpr T k r S' b' i := by
  intro i hi
  unfold lm_cpr
  rw [if_neg hk, if_neg hk]
  by_cases c : r = 64
  · rw [if_pos c, if_pos c]
    unfold lm_cc2
    have e : lm_of8i S = lm_of8i S' := by
      unfold lm_of8i
      rw [hS 0 (by decide), hS 1 (by decide), hS 2 (by decide), hS 3 (by decide), hS 4 (by decide), hS 5 (by decide), hS 6 (by decide), hS 7 (by decide)]
    rw [lm_r2_lo (K := lm_kw T.2.2) (fun t _ => rfl) (W' := lm_vs b' 48) (fun t ht => lm_vs_lo (fun i hi => h i (by omega)) 48 t ht) 64 0 _ (by decide), e]
    generalize lm_r2 (lm_kw T.2.2) (lm_vs b' 48) 64 0 (lm_of8i S') = q
    have h := hS i hi
    match i, hi with
    | 0, _ => exact congrArg (· + _) h
    | 1, _ => exact congrArg (· + _) h
    | 2, _ => exact congrArg (· + _) h
    | 3, _ => exact congrArg (· + _) h
    | 4, _ => exact congrArg (· + _) h
    | 5, _ => exact congrArg (· + _) h
    | 6, _ => exact congrArg (· + _) h
    | 7, _ => exact congrArg (· + _) h
  · rw [if_neg c, if_neg c]
    exact lm_cc5_lo (fun _ _ => rfl) hS (fun j hj => h j (by omega)) i hi
theorem lm_hf_A {h : lm_HV} (hk : ¬ 6 < k) (hr : r = 64 ∨ r = 128) (hA : h.1 + 1 + r / 8 ≤ r) : ∀ i, i < 8 → (lm_hf T k r h).2.2.1 i = lm_cpr T k r h.2.2.1 (lm_bA r h) i := by
  rw [lm_hf_eq hk hr (by omega), if_neg (by omega)]
  have ez : lm_zc r (r - r / 8) (h.1 + 1) = r - r / 8 - (h.1 + 1) := by unfold lm_zc; rw [if_pos (by omega)]
  rw [ez, show 1 + (r - r / 8 - (h.1 + 1)) + r / 8 = (r - h.1 - 1) + 1 by omega, lm_hps_eq (r - h.1 - 1) 0 h (by omega)]
  show ∀ i, i < 8 → lm_cpr T k r _ _ i = _
  rw [lm_hw_S6 hk]
  refine lm_cpr_lo hk hr (fun _ _ => rfl) (fun i hi => ?_)
  rw [lm_hw_B hk]
  unfold lm_bA lm_gp
  by_cases c : i < h.1
  · rw [if_neg (by omega), if_pos c]
  · rw [if_pos (by omega), if_neg c, lm_b8b]
    by_cases c1 : i = h.1
    · rw [if_pos (by omega), if_pos (by omega), if_pos c1]
    · rw [if_neg c1]
      by_cases c2 : i < r - r / 8
      · rw [if_pos (by omega), if_neg (by omega), if_pos c2]
      · rw [if_neg (by omega), if_neg c2, show r / 8 - 1 - (0 + (i - h.1) - (1 + (r - r / 8 - (h.1 + 1)))) = r - 1 - i by omega]
theorem lm_hf_B {h : lm_HV} (hk : ¬ 6 < k) (hr : r = 64 ∨ r = 128) (hf : h.1 < r) (hB : ¬ h.1 + 1 + r / 8 ≤ r) : ∀ i, i < 8 → (lm_hf T k r h).2.2.1 i = lm_cpr T k r (lm_cpr T k r h.2.2.1 (lm_bB h)) (lm_bC r ((Int64.ofNat 8) * h.2.1)) i := by
  rw [lm_hf_eq hk hr hf]
  have ez : lm_zc r (r - r / 8) (if h.1 + 1 = r then 0 else h.1 + 1) = (r - h.1 - 1) + (r - r / 8) := by
    unfold lm_zc
    by_cases g : h.1 + 1 = r
    · rw [if_pos g, if_pos (by omega)]; omega
    · rw [if_neg g, if_neg (by omega)]; omega
  rw [ez, show 1 + (r - h.1 - 1 + (r - r / 8)) + r / 8 = ((r - h.1 - 1) + 1) + ((r - 1) + 1) by omega, lm_hps_add, lm_hps_eq (r - h.1 - 1) 0 h (by omega), lm_hps_eq (r - 1) _ _ (by show 0 + (r - 1 + 1) = r; omega)]
  show ∀ i, i < 8 → lm_cpr T k r _ _ i = _
  rw [lm_hw_S6 hk]
  show ∀ i, i < 8 → lm_cpr T k r (lm_cpr T k r _ _) _ i = _
  rw [lm_hw_S6 hk]
  refine lm_cpr_lo hk hr (lm_cpr_lo hk hr (fun _ _ => rfl) (fun i hi => ?_)) (fun i hi => ?_)
  · rw [lm_hw_B hk]
    unfold lm_bB lm_gp
    by_cases c : i < h.1
    · rw [if_neg (by omega), if_pos c]
    · rw [if_pos (by omega), if_neg c, lm_b8b]
      by_cases c1 : i = h.1
      · rw [if_pos (by omega), if_pos (by omega), if_pos c1]
      · rw [if_neg c1, if_pos (by omega), if_neg (by omega)]
  · rw [lm_hw_B hk]
    show lm_b8 (if 0 ≤ i ∧ i < 0 + (r - 1 + 1) then _ else _) = _
    rw [if_pos (by omega), lm_b8b]
    unfold lm_bC lm_gp
    by_cases c2 : i < r - r / 8
    · rw [if_pos (by show 0 + (r - h.1 - 1 + 1) + (i - 0) < _; omega), if_neg (by show ¬ 0 + (r - h.1 - 1 + 1) + (i - 0) < 1; omega), if_pos c2]
    · rw [if_neg (by show ¬ 0 + (r - h.1 - 1 + 1) + (i - 0) < _; omega), if_neg c2]
      show lm_b8 (lm_gl _ (r / 8 - 1 - (0 + (r - h.1 - 1 + 1) + (i - 0) - _))) = _
      rw [show r / 8 - 1 - (0 + (r - h.1 - 1 + 1) + (i - 0) - (1 + (r - h.1 - 1 + (r - r / 8)))) = r - 1 - i by omega]
end LMPD
