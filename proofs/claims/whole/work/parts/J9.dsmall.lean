/-! ===== Dsa: comparisons of signed numbers; high, low; small methods of the class ===== -/
section LMZC
variable {a b : Int} {σ : lm_S} {A B : lm_M lm_R} {r : Option (Except Nat lm_R × lm_S)}
theorem lm_zle (ha : -2147483648 ≤ a ∧ a < 2147483648) (hb : -2147483648 ≤ b ∧ b < 2147483648) : Int32.ofInt a ≤ Int32.ofInt b ↔ a ≤ b := by
  rw [Int32.le_iff_toInt_le, lm_iT0 ha.1 ha.2, lm_iT0 hb.1 hb.2]
theorem lm_zlt (ha : -2147483648 ≤ a ∧ a < 2147483648) (hb : -2147483648 ≤ b ∧ b < 2147483648) : Int32.ofInt a < Int32.ofInt b ↔ a < b := by
  rw [Int32.lt_iff_toInt_lt, lm_iT0 ha.1 ha.2, lm_iT0 hb.1 hb.2]
theorem lm_zeq (ha : -2147483648 ≤ a ∧ a < 2147483648) (hb : -2147483648 ≤ b ∧ b < 2147483648) : Int32.ofInt a = Int32.ofInt b ↔ a = b := by
  constructor
  · intro h
    have := congrArg Int32.toInt h
    rw [lm_iT0 ha.1 ha.2, lm_iT0 hb.1 hb.2] at this
    exact this
  · intro h; rw [h]
theorem lm_zgeT (ha : -2147483648 ≤ a ∧ a < 2147483648) (hb : -2147483648 ≤ b ∧ b < 2147483648) (h : b ≤ a) (k : A σ = r) : lm_if .ge (Int32.ofInt a) (Int32.ofInt b) A B σ = r := lm_iT (show Int32.ofInt b ≤ Int32.ofInt a from (lm_zle hb ha).mpr h) k
theorem lm_zgeF (ha : -2147483648 ≤ a ∧ a < 2147483648) (hb : -2147483648 ≤ b ∧ b < 2147483648) (h : ¬ b ≤ a) (k : B σ = r) : lm_if .ge (Int32.ofInt a) (Int32.ofInt b) A B σ = r := lm_iF (show ¬ Int32.ofInt b ≤ Int32.ofInt a from fun g => h ((lm_zle hb ha).mp g)) k
theorem lm_zleT (ha : -2147483648 ≤ a ∧ a < 2147483648) (hb : -2147483648 ≤ b ∧ b < 2147483648) (h : a ≤ b) (k : A σ = r) : lm_if .le (Int32.ofInt a) (Int32.ofInt b) A B σ = r := lm_iT (show Int32.ofInt a ≤ Int32.ofInt b from (lm_zle ha hb).mpr h) k
theorem lm_zleF (ha : -2147483648 ≤ a ∧ a < 2147483648) (hb : -2147483648 ≤ b ∧ b < 2147483648) (h : ¬ a ≤ b) (k : B σ = r) : lm_if .le (Int32.ofInt a) (Int32.ofInt b) A B σ = r := lm_iF (show ¬ Int32.ofInt a ≤ Int32.ofInt b from fun g => h ((lm_zle ha hb).mp g)) k
theorem lm_zltT (ha : -2147483648 ≤ a ∧ a < 2147483648) (hb : -2147483648 ≤ b ∧ b < 2147483648) (h : a < b) (k : A σ = r) : lm_if .lt (Int32.ofInt a) (Int32.ofInt b) A B σ = r := lm_iT (show Int32.ofInt a < Int32.ofInt b from (lm_zlt ha hb).mpr h) k
theorem lm_zltF (ha : -2147483648 ≤ a ∧ a < 2147483648) (hb : -2147483648 ≤ b ∧ b < 2147483648) (h : ¬ a < b) (k : B σ = r) : lm_if .lt (Int32.ofInt a) (Int32.ofInt b) A B σ = r := lm_iF (show ¬ Int32.ofInt a < Int32.ofInt b from fun g => h ((lm_zlt ha hb).mp g)) k
theorem lm_zgtT (ha : -2147483648 ≤ a ∧ a < 2147483648) (hb : -2147483648 ≤ b ∧ b < 2147483648) (h : b < a) (k : A σ = r) : lm_if .gt (Int32.ofInt a) (Int32.ofInt b) A B σ = r := lm_iT (show Int32.ofInt b < Int32.ofInt a from (lm_zlt hb ha).mpr h) k
theorem lm_zgtF (ha : -2147483648 ≤ a ∧ a < 2147483648) (hb : -2147483648 ≤ b ∧ b < 2147483648) (h : ¬ b < a) (k : B σ = r) : lm_if .gt (Int32.ofInt a) (Int32.ofInt b) A B σ = r := lm_iF (show ¬ Int32.ofInt b < Int32.ofInt a from fun g => h ((lm_zlt hb ha).mp g)) k
theorem lm_zneT (ha : -2147483648 ≤ a ∧ a < 2147483648) (hb : -2147483648 ≤ b ∧ b < 2147483648) (h : a ≠ b) (k : A σ = r) : lm_if .ne (Int32.ofInt a) (Int32.ofInt b) A B σ = r := lm_iT (show ¬ Int32.ofInt a = Int32.ofInt b from fun g => h ((lm_zeq ha hb).mp g)) k
theorem lm_zneF (h : a = b) (k : B σ = r) : lm_if .ne (Int32.ofInt a) (Int32.ofInt b) A B σ = r := lm_iF (show ¬ ¬ Int32.ofInt a = Int32.ofInt b from fun g => g (by rw [h])) k
theorem lm_zeqT (h : a = b) (k : A σ = r) : lm_if .eq (Int32.ofInt a) (Int32.ofInt b) A B σ = r := lm_iT (show Int32.ofInt a = Int32.ofInt b by rw [h]) k
theorem lm_zeqF (ha : -2147483648 ≤ a ∧ a < 2147483648) (hb : -2147483648 ≤ b ∧ b < 2147483648) (h : a ≠ b) (k : B σ = r) : lm_if .eq (Int32.ofInt a) (Int32.ofInt b) A B σ = r := lm_iF (show ¬ Int32.ofInt a = Int32.ofInt b from fun g => h ((lm_zeq ha hb).mp g)) k
end LMZC
/-! the halves -/
def lm_lx (g r : Int) : Int := if r % (2 * g) ≤ g then r % (2 * g) else r % (2 * g) - 2 * g
def ln_lo (g r : Int) : Int := if r - lm_lx g r = 8380416 then lm_lx g r - 1 else lm_lx g r
def lm_hi (g r : Int) : Int := if r - lm_lx g r = 8380416 then 0 else (r - lm_lx g r) / (2 * g)
theorem lm_g2_2 {s : Nat} (hs : s ≤ 2) : ((lm_dg2 s : Nat) : Int) = 95232 ∨ ((lm_dg2 s : Nat) : Int) = 261888 := by
  match s, hs with
  | 0, _ => exact Or.inl rfl
  | 1, _ => exact Or.inr rfl
  | 2, _ => exact Or.inr rfl
theorem lm_lx_b {g r : Int} (hg : g = 95232 ∨ g = 261888) (hr : 0 ≤ r ∧ r < 8380417) : -g < lm_lx g r ∧ lm_lx g r ≤ g ∧ 0 ≤ r - lm_lx g r ∧ r - lm_lx g r ≤ 8380416 ∧ (r - lm_lx g r) % (2 * g) = 0 := by
  unfold lm_lx
  rcases hg with e | e <;> subst e <;> split <;> omega
theorem lm_lo_b {g r : Int} (hg : g = 95232 ∨ g = 261888) (hr : 0 ≤ r ∧ r < 8380417) : -g ≤ ln_lo g r ∧ ln_lo g r ≤ g := by
  have := lm_lx_b hg hr
  unfold ln_lo
  split <;> omega
theorem lm_hi_b {g r : Int} (hg : g = 95232 ∨ g = 261888) (hr : 0 ≤ r ∧ r < 8380417) : 0 ≤ lm_hi g r ∧ lm_hi g r * (2 * g) < 8380416 := by
  have := lm_lx_b hg hr
  unfold lm_hi
  rcases hg with e | e <;> subst e <;> split <;> omega
theorem lm_hi_n {g r : Int} (hg : g = 95232 ∨ g = 261888) (hr : 0 ≤ r ∧ r < 8380417) : lm_hi g r = if r - ln_lo g r = 8380417 then 0 else (r - ln_lo g r) / (2 * g) := by
  have := lm_lx_b hg hr
  unfold lm_hi ln_lo
  by_cases c : r - lm_lx g r = 8380416
  · rw [if_pos c, if_pos c, if_pos (by omega)]
  · rw [if_neg c, if_neg c, if_neg (by omega)]
/-- the middle of the remainders -/
def ln_ce (r : Int) : Int := if r ≤ 4190208 then r else r - 8380417
theorem lm_ce_b {r : Int} (hr : 0 ≤ r ∧ r < 8380417) : -4190208 ≤ ln_ce r ∧ ln_ce r ≤ 4190208 := by
  unfold ln_ce
  split <;> omega
section LMDT
variable {xs : List Int32} {s : Nat} {σ : lm_S} {f : Int32 → lm_M lm_R} {r : Option (Except Nat lm_R × lm_S)}
theorem ln_tb11 (hs : s ≤ 2) (k : f (Int32.ofNat (lm_dg1 s)) σ = r) : lm_bind (lm_iald (lm_sc xs) (lm_B + 11) (Int32.ofNat s)) f σ = r := by
  match s, hs with
  | 0, _ => exact lm_sSt rfl rfl rfl k
  | 1, _ => exact lm_sSt rfl rfl rfl k
  | 2, _ => exact lm_sSt rfl rfl rfl k
theorem ln_tb12 (hs : s ≤ 2) (k : f (Int32.ofNat (lm_dg2 s)) σ = r) : lm_bind (lm_iald (lm_sc xs) (lm_B + 12) (Int32.ofNat s)) f σ = r := by
  match s, hs with
  | 0, _ => exact lm_sSt rfl rfl rfl k
  | 1, _ => exact lm_sSt rfl rfl rfl k
  | 2, _ => exact lm_sSt rfl rfl rfl k
theorem ln_tb13 (hs : s ≤ 2) (k : f (Int32.ofNat (lm_dsz s)) σ = r) : lm_bind (lm_iald (lm_sc xs) (lm_B + 13) (Int32.ofNat s)) f σ = r := by
  match s, hs with
  | 0, _ => exact lm_sSt rfl rfl rfl k
  | 1, _ => exact lm_sSt rfl rfl rfl k
  | 2, _ => exact lm_sSt rfl rfl rfl k
theorem ln_tb14 (hs : s ≤ 2) (k : f (Int32.ofNat (lm_dt' s)) σ = r) : lm_bind (lm_iald (lm_sc xs) (lm_B + 14) (Int32.ofNat s)) f σ = r := by
  match s, hs with
  | 0, _ => exact lm_sSt rfl rfl rfl k
  | 1, _ => exact lm_sSt rfl rfl rfl k
  | 2, _ => exact lm_sSt rfl rfl rfl k
theorem ln_tb15 (hs : s ≤ 2) (k : f (Int32.ofNat (lm_do s)) σ = r) : lm_bind (lm_iald (lm_sc xs) (lm_B + 15) (Int32.ofNat s)) f σ = r := by
  match s, hs with
  | 0, _ => exact lm_sSt rfl rfl rfl k
  | 1, _ => exact lm_sSt rfl rfl rfl k
  | 2, _ => exact lm_sSt rfl rfl rfl k
end LMDT
/-- sizes -/
def lm_hb (s : Nat) : Nat := [6, 4, 4].getD s 0
def lm_be (s : Nat) : Nat := lm_dt' s * lm_de s
theorem lm_dpar : ∀ s, s ≤ 2 → lm_dt' s ≤ 60 ∧ 39 ≤ lm_dt' s ∧ lm_dg1 s ≤ 524288 ∧ 131072 ≤ lm_dg1 s ∧ lm_do s ≤ 80 ∧ 55 ≤ lm_do s ∧ lm_dsz s ≤ 64 ∧ 32 ≤ lm_dsz s ∧ 18 ≤ lm_dw s ∧ lm_dw s ≤ 20 ∧ lm_be s ≤ 196 ∧ 78 ≤ lm_be s ∧ lm_do s + lm_dk s ≤ 84 ∧ 2 ^ lm_dw s = 2 * lm_dg1 s ∧ lm_hb s ≤ 6 ∧ 4 ≤ lm_hb s := by decide
theorem lm_hi_hb {s : Nat} {r : Int} (hs : s ≤ 2) (hr : 0 ≤ r ∧ r < 8380417) : 0 ≤ lm_hi (lm_dg2 s) r ∧ lm_hi (lm_dg2 s) r < ((2 ^ lm_hb s : Nat) : Int) := by
  match s, hs with
  | 0, _ => have := lm_hi_b (g := 95232) (Or.inl rfl) hr; exact ⟨this.1, by show lm_hi 95232 r < 64; omega⟩
  | 1, _ => have := lm_hi_b (g := 261888) (Or.inr rfl) hr; exact ⟨this.1, by show lm_hi 261888 r < 16; omega⟩
  | 2, _ => have := lm_hi_b (g := 261888) (Or.inr rfl) hr; exact ⟨this.1, by show lm_hi 261888 r < 16; omega⟩
section LMDU
variable {xs : List Int32} {sc : lm_H} {d s q v a p : Nat} {m m0 : lm_MI} {n : lm_ML} {x : lm_H × Nat × Nat} {σ : lm_S}
/-- low -/
theorem lm_u302 {r : Int} (hs : s ≤ 2) (h17 : m 76 17 = Int32.ofNat s) (hr : 0 ≤ r ∧ r < 8380417) : lm_cal (lm_sc xs) (d + 1) 302 [.ref 76, .int (Int32.ofInt r)] (lm_w m n x) = some (.ok (some (.int (Int32.ofInt (ln_lo (lm_dg2 s) r)))), lm_w m n x) := by
  have hg := lm_g2_2 hs
  have hb := lm_lx_b hg hr
  have eR : lm_rem (Int32.ofInt r) (Int32.ofInt 2 * Int32.ofNat (lm_dg2 s)) = Int32.ofInt (r % (2 * ((lm_dg2 s : Nat) : Int))) := by
    rw [lm_oN, lm_iM, lm_iR (by omega) (by omega) (by omega) (by omega), Int.tmod_eq_emod_of_nonneg hr.1]
  have eZ : ¬ Int32.ofInt 2 * Int32.ofNat (lm_dg2 s) = 0 := by
    rw [lm_oN, lm_iM]
    exact fun g => absurd ((lm_zeq (b := 0) (by omega) (by omega)).mp g) (by omega)
  have fin : ∀ w, w = Int32.ofInt (lm_lx (lm_dg2 s) r) → lm_rn (lm_sc xs) d lm_m302.2.2.2.2.1 (lm_reg lm_m302.2.2.2.2.2) (26, [(1, .int (Int32.ofInt r)), (3, .int w)], []) (lm_w m n x) = some (.ok (some (.int (Int32.ofInt (ln_lo (lm_dg2 s) r)))), lm_w m n x) := by
    intro w hw
    subst hw
    refine lm_e302_26 ?_
    unfold lm_q302_26
    rw [lm_iS, lm_iS]
    unfold ln_lo
    by_cases c : r - lm_lx (lm_dg2 s) r = 8380416
    · rw [if_pos c]
      exact lm_zneF c rfl
    · rw [if_neg c]
      exact lm_zneT (by omega) (by omega) c rfl
  refine lm_cal_of (Y := lm_m302) rfl rfl (lm_e302_0 ?_)
  unfold lm_q302_0
  repeat (first
    | ((with_reducible apply lm_sI); exact rfl)
    | ((with_reducible apply lm_sR); exact rfl)
    | ((with_reducible apply lm_sS); exact rfl; exact rfl)
    | ((with_reducible apply lm_sL); exact rfl)
    | ((with_reducible apply lm_sP); exact rfl; exact rfl)
    | ((with_reducible apply lm_sPL); exact rfl; exact rfl)
    | ((with_reducible apply lm_sAA); exact rfl; exact rfl)
    | ((with_reducible apply lm_sA); (first | exact rfl | assumption); omega)
    | ((with_reducible apply lm_sJ); (first | exact rfl | assumption); omega)
    | ((with_reducible apply lm_sB); (first | exact rfl | assumption); omega)
    | ((with_reducible apply lm_wA); (first | exact rfl | assumption); omega)
    | ((with_reducible apply lm_wJ); (first | exact rfl | assumption); omega)
    | ((with_reducible apply lm_wB); (first | exact rfl | assumption); omega)
    | ((with_reducible apply lm_sAl); (first | exact rfl | assumption); omega)
    | ((with_reducible apply lm_iW); decide))
  simp only [Nat.reduceDiv, Nat.reduceMod]
  rw [h17]
  refine ln_tb12 hs (lm_iW eZ ?_)
  rw [eR, lm_oN (lm_dg2 s)]
  have hm : 0 ≤ r % (2 * ((lm_dg2 s : Nat) : Int)) ∧ r % (2 * ((lm_dg2 s : Nat) : Int)) < 2 * ((lm_dg2 s : Nat) : Int) := ⟨Int.emod_nonneg _ (by omega), Int.emod_lt_of_pos _ (by omega)⟩
  by_cases c : r % (2 * ((lm_dg2 s : Nat) : Int)) ≤ ((lm_dg2 s : Nat) : Int)
  · refine lm_zleT (by omega) (by omega) c ?_
    exact fin _ (by unfold lm_lx; rw [if_pos c])
  · refine lm_zleF (by omega) (by omega) c ?_
    exact fin _ (by unfold lm_lx; rw [if_neg c, lm_iM, lm_iS])
/-- high -/
theorem lm_u301 {r : Int} (hs : s ≤ 2) (h17 : m 76 17 = Int32.ofNat s) (hr : 0 ≤ r ∧ r < 8380417) : lm_cal (lm_sc xs) (d + 2) 301 [.ref 76, .int (Int32.ofInt r)] (lm_w m n x) = some (.ok (some (.int (Int32.ofInt (lm_hi (lm_dg2 s) r)))), lm_w m n x) := by
  have hg := lm_g2_2 hs
  have hb := lm_lo_b hg hr
  have hx := lm_lx_b hg hr
  have eZ : ¬ Int32.ofInt 2 * Int32.ofNat (lm_dg2 s) = 0 := by
    rw [lm_oN, lm_iM]
    exact fun g => absurd ((lm_zeq (b := 0) (by omega) (by omega)).mp g) (by omega)
  refine lm_cal_of (Y := lm_m301) rfl rfl (lm_e301_0 ?_)
  unfold lm_q301_0
  repeat (first
    | ((with_reducible apply lm_sI); exact rfl)
    | ((with_reducible apply lm_sR); exact rfl)
    | ((with_reducible apply lm_sS); exact rfl; exact rfl)
    | ((with_reducible apply lm_sL); exact rfl)
    | ((with_reducible apply lm_sP); exact rfl; exact rfl)
    | ((with_reducible apply lm_sPL); exact rfl; exact rfl)
    | ((with_reducible apply lm_sAA); exact rfl; exact rfl)
    | ((with_reducible apply lm_sA); (first | exact rfl | assumption); omega)
    | ((with_reducible apply lm_sJ); (first | exact rfl | assumption); omega)
    | ((with_reducible apply lm_sB); (first | exact rfl | assumption); omega)
    | ((with_reducible apply lm_wA); (first | exact rfl | assumption); omega)
    | ((with_reducible apply lm_wJ); (first | exact rfl | assumption); omega)
    | ((with_reducible apply lm_wB); (first | exact rfl | assumption); omega)
    | ((with_reducible apply lm_sAl); (first | exact rfl | assumption); omega)
    | ((with_reducible apply lm_iW); decide))
  refine lm_cI (lm_u302 (d := d) hs h17 hr) ?_
  rw [lm_iS, lm_hi_n hg hr]
  by_cases c : r - ln_lo (lm_dg2 s) r = 8380417
  · rw [if_pos c]
    exact lm_zneF c rfl
  · rw [if_neg c]
    refine lm_zneT (by omega) (by omega) c ?_
    repeat (first
    | ((with_reducible apply lm_sI); exact rfl)
    | ((with_reducible apply lm_sR); exact rfl)
    | ((with_reducible apply lm_sS); exact rfl; exact rfl)
    | ((with_reducible apply lm_sL); exact rfl)
    | ((with_reducible apply lm_sP); exact rfl; exact rfl)
    | ((with_reducible apply lm_sPL); exact rfl; exact rfl)
    | ((with_reducible apply lm_sAA); exact rfl; exact rfl)
    | ((with_reducible apply lm_sA); (first | exact rfl | assumption); omega)
    | ((with_reducible apply lm_sJ); (first | exact rfl | assumption); omega)
    | ((with_reducible apply lm_sB); (first | exact rfl | assumption); omega)
    | ((with_reducible apply lm_wA); (first | exact rfl | assumption); omega)
    | ((with_reducible apply lm_wJ); (first | exact rfl | assumption); omega)
    | ((with_reducible apply lm_wB); (first | exact rfl | assumption); omega)
    | ((with_reducible apply lm_sAl); (first | exact rfl | assumption); omega)
    | ((with_reducible apply lm_iW); decide))
    simp only [Nat.reduceDiv, Nat.reduceMod]
    rw [h17]
    refine ln_tb12 hs (lm_iW eZ ?_)
    have h0 : 0 ≤ r - ln_lo (lm_dg2 s) r := by
      unfold ln_lo
      split <;> omega
    rw [lm_oN, lm_iM, lm_iD (by omega) (by omega) (by omega) (by omega), Int.tdiv_eq_ediv_of_nonneg h0]
    rfl
/-- abs -/
theorem lm_u253 {a : Int} (ha : -2147483648 < a ∧ a < 2147483648) : lm_cal sc (d + 1) 253 [.int (Int32.ofInt a)] σ = some (.ok (some (.int (Int32.ofInt (if 0 ≤ a then a else -a)))), σ) := by
  refine lm_cal_of (Y := lm_m253) rfl rfl (lm_e253_0 ?_)
  unfold lm_q253_0
  by_cases c : 0 ≤ a
  · rw [if_pos c]
    exact lm_zgeT (b := 0) (by omega) (by omega) c rfl
  · rw [if_neg c, ← lm_iN]
    exact lm_zgeF (b := 0) (by omega) (by omega) c rfl
/-- bound, maskBits, highBits -/
theorem lm_u250 (hs : s ≤ 2) (h17 : m 76 17 = Int32.ofNat s) : lm_cal (lm_sc xs) (d + 1) 250 [.ref 76] (lm_w m n x) = some (.ok (some (.int (Int32.ofNat (lm_be s)))), lm_w m n x) := by
  refine lm_cal_of (Y := lm_m250) rfl rfl (lm_e250_0 ?_)
  unfold lm_q250_0
  repeat (first
    | ((with_reducible apply lm_sI); exact rfl)
    | ((with_reducible apply lm_sR); exact rfl)
    | ((with_reducible apply lm_sS); exact rfl; exact rfl)
    | ((with_reducible apply lm_sL); exact rfl)
    | ((with_reducible apply lm_sP); exact rfl; exact rfl)
    | ((with_reducible apply lm_sPL); exact rfl; exact rfl)
    | ((with_reducible apply lm_sAA); exact rfl; exact rfl)
    | ((with_reducible apply lm_sA); (first | exact rfl | assumption); omega)
    | ((with_reducible apply lm_sJ); (first | exact rfl | assumption); omega)
    | ((with_reducible apply lm_sB); (first | exact rfl | assumption); omega)
    | ((with_reducible apply lm_wA); (first | exact rfl | assumption); omega)
    | ((with_reducible apply lm_wJ); (first | exact rfl | assumption); omega)
    | ((with_reducible apply lm_wB); (first | exact rfl | assumption); omega)
    | ((with_reducible apply lm_sAl); (first | exact rfl | assumption); omega)
    | ((with_reducible apply lm_iW); decide))
  simp only [Nat.reduceDiv, Nat.reduceMod]
  rw [h17]
  refine ln_tb14 hs ?_
  repeat (first
    | ((with_reducible apply lm_sI); exact rfl)
    | ((with_reducible apply lm_sR); exact rfl)
    | ((with_reducible apply lm_sS); exact rfl; exact rfl)
    | ((with_reducible apply lm_sL); exact rfl)
    | ((with_reducible apply lm_sP); exact rfl; exact rfl)
    | ((with_reducible apply lm_sPL); exact rfl; exact rfl)
    | ((with_reducible apply lm_sAA); exact rfl; exact rfl)
    | ((with_reducible apply lm_sA); (first | exact rfl | assumption); omega)
    | ((with_reducible apply lm_sJ); (first | exact rfl | assumption); omega)
    | ((with_reducible apply lm_sB); (first | exact rfl | assumption); omega)
    | ((with_reducible apply lm_wA); (first | exact rfl | assumption); omega)
    | ((with_reducible apply lm_wJ); (first | exact rfl | assumption); omega)
    | ((with_reducible apply lm_wB); (first | exact rfl | assumption); omega)
    | ((with_reducible apply lm_sAl); (first | exact rfl | assumption); omega)
    | ((with_reducible apply lm_iW); decide))
  simp only [Nat.reduceDiv, Nat.reduceMod]
  rw [h17]
  refine lm_eta hs ?_
  rw [lm_om]
  rfl
theorem lm_u251 (hs : s ≤ 2) (h17 : m 76 17 = Int32.ofNat s) : lm_cal sc (d + 1) 251 [.ref 76] (lm_w m n x) = some (.ok (some (.int (Int32.ofNat (lm_dw s)))), lm_w m n x) := by
  refine lm_cal_of (Y := lm_m251) rfl rfl (lm_e251_0 ?_)
  unfold lm_q251_0
  repeat (first
    | ((with_reducible apply lm_sI); exact rfl)
    | ((with_reducible apply lm_sR); exact rfl)
    | ((with_reducible apply lm_sS); exact rfl; exact rfl)
    | ((with_reducible apply lm_sL); exact rfl)
    | ((with_reducible apply lm_sP); exact rfl; exact rfl)
    | ((with_reducible apply lm_sPL); exact rfl; exact rfl)
    | ((with_reducible apply lm_sAA); exact rfl; exact rfl)
    | ((with_reducible apply lm_sA); (first | exact rfl | assumption); omega)
    | ((with_reducible apply lm_sJ); (first | exact rfl | assumption); omega)
    | ((with_reducible apply lm_sB); (first | exact rfl | assumption); omega)
    | ((with_reducible apply lm_wA); (first | exact rfl | assumption); omega)
    | ((with_reducible apply lm_wJ); (first | exact rfl | assumption); omega)
    | ((with_reducible apply lm_wB); (first | exact rfl | assumption); omega)
    | ((with_reducible apply lm_sAl); (first | exact rfl | assumption); omega)
    | ((with_reducible apply lm_iW); decide))
  simp only [Nat.reduceDiv, Nat.reduceMod]
  rw [h17]
  match s, hs with
  | 0, _ => exact lm_iF (show ¬ ¬ Int32.ofNat 0 = 0 by decide) rfl
  | 1, _ => exact lm_iT (show ¬ Int32.ofNat 1 = 0 by decide) rfl
  | 2, _ => exact lm_iT (show ¬ Int32.ofNat 2 = 0 by decide) rfl
theorem lm_u257 (hs : s ≤ 2) (h17 : m 76 17 = Int32.ofNat s) : lm_cal sc (d + 1) 257 [.ref 76] (lm_w m n x) = some (.ok (some (.int (Int32.ofNat (lm_hb s)))), lm_w m n x) := by
  refine lm_cal_of (Y := lm_m257) rfl rfl (lm_e257_0 ?_)
  unfold lm_q257_0
  repeat (first
    | ((with_reducible apply lm_sI); exact rfl)
    | ((with_reducible apply lm_sR); exact rfl)
    | ((with_reducible apply lm_sS); exact rfl; exact rfl)
    | ((with_reducible apply lm_sL); exact rfl)
    | ((with_reducible apply lm_sP); exact rfl; exact rfl)
    | ((with_reducible apply lm_sPL); exact rfl; exact rfl)
    | ((with_reducible apply lm_sAA); exact rfl; exact rfl)
    | ((with_reducible apply lm_sA); (first | exact rfl | assumption); omega)
    | ((with_reducible apply lm_sJ); (first | exact rfl | assumption); omega)
    | ((with_reducible apply lm_sB); (first | exact rfl | assumption); omega)
    | ((with_reducible apply lm_wA); (first | exact rfl | assumption); omega)
    | ((with_reducible apply lm_wJ); (first | exact rfl | assumption); omega)
    | ((with_reducible apply lm_wB); (first | exact rfl | assumption); omega)
    | ((with_reducible apply lm_sAl); (first | exact rfl | assumption); omega)
    | ((with_reducible apply lm_iW); decide))
  simp only [Nat.reduceDiv, Nat.reduceMod]
  rw [h17]
  match s, hs with
  | 0, _ => exact lm_iF (show ¬ ¬ Int32.ofNat 0 = 0 by decide) rfl
  | 1, _ => exact lm_iT (show ¬ Int32.ofNat 1 = 0 by decide) rfl
  | 2, _ => exact lm_iT (show ¬ Int32.ofNat 2 = 0 by decide) rfl
/-- packetSize -/
def lm_dps (s : Nat) : Nat := lm_dsz s + lm_dl s * 32 * lm_dw s + lm_do s + lm_dk s
theorem lm_u248 (hs : s ≤ 2) (h : lm_DC m s) : lm_cal (lm_sc xs) (d + 2) 248 [.ref 76] (lm_w m n x) = some (.ok (some (.int (Int32.ofNat (lm_dps s)))), lm_w m n x) := by
  refine lm_cal_of (Y := lm_m248) rfl rfl (lm_e248_0 ?_)
  unfold lm_q248_0
  repeat (first
    | ((with_reducible apply lm_sI); exact rfl)
    | ((with_reducible apply lm_sR); exact rfl)
    | ((with_reducible apply lm_sS); exact rfl; exact rfl)
    | ((with_reducible apply lm_sL); exact rfl)
    | ((with_reducible apply lm_sP); exact rfl; exact rfl)
    | ((with_reducible apply lm_sPL); exact rfl; exact rfl)
    | ((with_reducible apply lm_sAA); exact rfl; exact rfl)
    | ((with_reducible apply lm_sA); (first | exact rfl | assumption); omega)
    | ((with_reducible apply lm_sJ); (first | exact rfl | assumption); omega)
    | ((with_reducible apply lm_sB); (first | exact rfl | assumption); omega)
    | ((with_reducible apply lm_wA); (first | exact rfl | assumption); omega)
    | ((with_reducible apply lm_wJ); (first | exact rfl | assumption); omega)
    | ((with_reducible apply lm_wB); (first | exact rfl | assumption); omega)
    | ((with_reducible apply lm_sAl); (first | exact rfl | assumption); omega)
    | ((with_reducible apply lm_iW); decide))
  simp only [Nat.reduceDiv, Nat.reduceMod]
  rw [h.1]
  refine ln_tb13 hs ?_
  repeat (first
    | ((with_reducible apply lm_sI); exact rfl)
    | ((with_reducible apply lm_sR); exact rfl)
    | ((with_reducible apply lm_sS); exact rfl; exact rfl)
    | ((with_reducible apply lm_sL); exact rfl)
    | ((with_reducible apply lm_sP); exact rfl; exact rfl)
    | ((with_reducible apply lm_sPL); exact rfl; exact rfl)
    | ((with_reducible apply lm_sAA); exact rfl; exact rfl)
    | ((with_reducible apply lm_sA); (first | exact rfl | assumption); omega)
    | ((with_reducible apply lm_sJ); (first | exact rfl | assumption); omega)
    | ((with_reducible apply lm_sB); (first | exact rfl | assumption); omega)
    | ((with_reducible apply lm_wA); (first | exact rfl | assumption); omega)
    | ((with_reducible apply lm_wJ); (first | exact rfl | assumption); omega)
    | ((with_reducible apply lm_wB); (first | exact rfl | assumption); omega)
    | ((with_reducible apply lm_sAl); (first | exact rfl | assumption); omega)
    | ((with_reducible apply lm_iW); decide))
  refine lm_cI (lm_u251 (d := d) hs h.1) ?_
  repeat (first
    | ((with_reducible apply lm_sI); exact rfl)
    | ((with_reducible apply lm_sR); exact rfl)
    | ((with_reducible apply lm_sS); exact rfl; exact rfl)
    | ((with_reducible apply lm_sL); exact rfl)
    | ((with_reducible apply lm_sP); exact rfl; exact rfl)
    | ((with_reducible apply lm_sPL); exact rfl; exact rfl)
    | ((with_reducible apply lm_sAA); exact rfl; exact rfl)
    | ((with_reducible apply lm_sA); (first | exact rfl | assumption); omega)
    | ((with_reducible apply lm_sJ); (first | exact rfl | assumption); omega)
    | ((with_reducible apply lm_sB); (first | exact rfl | assumption); omega)
    | ((with_reducible apply lm_wA); (first | exact rfl | assumption); omega)
    | ((with_reducible apply lm_wJ); (first | exact rfl | assumption); omega)
    | ((with_reducible apply lm_wB); (first | exact rfl | assumption); omega)
    | ((with_reducible apply lm_sAl); (first | exact rfl | assumption); omega)
    | ((with_reducible apply lm_iW); decide))
  simp only [Nat.reduceDiv, Nat.reduceMod]
  rw [h.1]
  refine ln_tb15 hs ?_
  repeat (first
    | ((with_reducible apply lm_sI); exact rfl)
    | ((with_reducible apply lm_sR); exact rfl)
    | ((with_reducible apply lm_sS); exact rfl; exact rfl)
    | ((with_reducible apply lm_sL); exact rfl)
    | ((with_reducible apply lm_sP); exact rfl; exact rfl)
    | ((with_reducible apply lm_sPL); exact rfl; exact rfl)
    | ((with_reducible apply lm_sAA); exact rfl; exact rfl)
    | ((with_reducible apply lm_sA); (first | exact rfl | assumption); omega)
    | ((with_reducible apply lm_sJ); (first | exact rfl | assumption); omega)
    | ((with_reducible apply lm_sB); (first | exact rfl | assumption); omega)
    | ((with_reducible apply lm_wA); (first | exact rfl | assumption); omega)
    | ((with_reducible apply lm_wJ); (first | exact rfl | assumption); omega)
    | ((with_reducible apply lm_wB); (first | exact rfl | assumption); omega)
    | ((with_reducible apply lm_sAl); (first | exact rfl | assumption); omega)
    | ((with_reducible apply lm_iW); decide))
  simp only [Nat.reduceDiv, Nat.reduceMod]
  rw [h.2.1, h.2.2, lm_K32, lm_om, lm_om, lm_oo, lm_oo, lm_oo]
  rfl
/-- centred -/
theorem lm_u310 {r : Int} (hr : 0 ≤ r ∧ r < 8380417) : lm_cal sc (d + 1) 310 [.int (Int32.ofInt r)] σ = some (.ok (some (.int (Int32.ofInt (ln_ce r)))), σ) := by
  refine lm_cal_of (Y := lm_m310) rfl rfl (lm_e310_0 ?_)
  unfold lm_q310_0
  rw [lm_iS]
  unfold ln_ce
  by_cases c : r ≤ 4190208
  · rw [if_pos c]
    exact lm_zleT (by omega) (by omega) c rfl
  · rw [if_neg c]
    exact lm_zleF (by omega) (by omega) c rfl
/-- unpackFrom -/
theorem lm_u252 {B : Int} {bits : Nat} (hB : -10000000 ≤ B ∧ B ≤ 10000000) (hq : lm_ar q = some (1, v)) (hv : v ≤ 70000) (hp : lm_ar p = some (0, 256)) (hqp : q ≠ p) (hb1 : 1 ≤ bits) (hb : bits ≤ 20) (ha : a + 32 * bits ≤ v) : ∃ m', lm_cal sc (d + 2) 252 [.ref 76, .int (Int32.ofInt B), .ref q, .int (Int32.ofNat a), .int (Int32.ofNat bits), .ref p] (lm_w m n x) = some (.ok none, lm_w m' n x) ∧ lm_PA m m' p (fun i => B - (ln_bv (ln_bt (fun j => m q (a + j))) (i * bits) bits : Nat)) := by
  obtain ⟨m1, c1, p1⟩ := lm_u227 (sc := sc) (e := d) (m := m) (n := n) (x := x) (q := q) (v := v) (p := p) (a := a) (d := bits) hq hp hqp hb1 hb hv ha
  obtain ⟨m2, n2, ⟨en, h1⟩, k1⟩ := lm_lp (sc := sc) (d := d + 1) (b := 256) (hs := lm_m252.2.2.2.2.1) (code := lm_reg lm_m252.2.2.2.2.2) (x := x) (fr := fun i => (12, [(1, .int (Int32.ofInt B)), (5, .ref p), (6, .int (Int32.ofNat i))], [])) (I := fun i m' n' => n' = n ∧ lm_PA m m' p (fun j => if j < i then B - (ln_bv (ln_bt (fun j => m q (a + j))) (j * bits) bits : Nat) else (ln_bv (ln_bt (fun j => m q (a + j))) (j * bits) bits : Nat))) (fun i hi m1 n1 ⟨en, h1⟩ => by
    have e := h1.2 i hi
    dsimp only at e
    rw [if_neg (by omega)] at e
    refine ⟨lm_u m1 p i (Int32.ofInt (B - (ln_bv (ln_bt (fun j => m q (a + j))) (i * bits) bits : Nat))), n1, ⟨en, fun r hr => (lm_u_row hr).trans (h1.1 r hr), fun j hj => ?_⟩, fun R K => lm_e252_12 ?_⟩
    · dsimp only
      by_cases c : j = i
      · subst c
        rw [lm_u_eq, if_pos (by omega)]
      · rw [lm_u_ne (by omega), h1.2 j hj]
        dsimp only
        by_cases c2 : j < i
        · rw [if_pos c2, if_pos (by omega)]
        · rw [if_neg c2, if_neg (by omega)]
    · unfold lm_q252_12
      rw [lm_K256]
      refine lm_geF (by omega) (by omega) (by omega) ?_
      repeat (first
    | ((with_reducible apply lm_sI); exact rfl)
    | ((with_reducible apply lm_sR); exact rfl)
    | ((with_reducible apply lm_sS); exact rfl; exact rfl)
    | ((with_reducible apply lm_sL); exact rfl)
    | ((with_reducible apply lm_sP); exact rfl; exact rfl)
    | ((with_reducible apply lm_sPL); exact rfl; exact rfl)
    | ((with_reducible apply lm_sAA); exact rfl; exact rfl)
    | ((with_reducible apply lm_sA); (first | exact rfl | assumption); omega)
    | ((with_reducible apply lm_sJ); (first | exact rfl | assumption); omega)
    | ((with_reducible apply lm_sB); (first | exact rfl | assumption); omega)
    | ((with_reducible apply lm_wA); (first | exact rfl | assumption); omega)
    | ((with_reducible apply lm_wJ); (first | exact rfl | assumption); omega)
    | ((with_reducible apply lm_wB); (first | exact rfl | assumption); omega)
    | ((with_reducible apply lm_sAl); (first | exact rfl | assumption); omega)
    | ((with_reducible apply lm_iW); decide))
      rw [e, lm_iS, lm_K1, lm_oo]
      exact K) 256 0 (by omega) m1 n ⟨rfl, p1.hl fun j _ => by rw [if_neg (by omega)]⟩
  subst en
  refine ⟨m2, ?_, h1.hl fun j hj => by rw [if_pos hj]⟩
  refine lm_cal_of (Y := lm_m252) rfl rfl (lm_e252_0 ?_)
  unfold lm_q252_0
  refine lm_cV c1 ?_
  rw [lm_K0]
  refine k1 _ (lm_e252_12 ?_)
  unfold lm_q252_12
  rw [lm_K256]
  exact lm_geT (by omega) (by omega) (by omega) rfl
end LMDU
