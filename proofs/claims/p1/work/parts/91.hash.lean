/-! ===== hashing as a function: bytes in a block, full blocks, what the compressions read ===== -/
/-- c bytes into the block, none taken -/
def lm_hw (k : Nat) (g : Nat → Int32) : Nat → Nat → lm_HV → lm_HV
  | 0, _, h => h
  | c + 1, a, h => lm_hw k g c (a + 1) (h.1 + 1, h.2.1 + Int64.ofNat 1, lm_hS k (g a) h, lm_hB k (g a) h)
/-- bytes of a block into the state of a sponge -/
def lm_fls (b : Nat → Int32) : Nat → Nat → (Nat → Int64) → Nat → Int64
  | 0, _, S => S
  | c + 1, f, S => lm_fls b c (f + 1) (lm_flp S f (b f))
theorem lm_fls_ext {b b' : Nat → Int32} : ∀ c f (S : Nat → Int64), (∀ i, f ≤ i → i < f + c → b i = b' i) → lm_fls b c f S = lm_fls b' c f S := by
  intro c
  induction c with
  | zero => intro f S _; rfl
  | succ c ih =>
    intro f S h
    show lm_fls b c (f + 1) (lm_flp S f (b f)) = lm_fls b' c (f + 1) (lm_flp S f (b' f))
    rw [h f (by omega) (by omega)]
    exact ih (f + 1) _ (fun i h1 h2 => h i (by omega) (by omega))
theorem lm_fls_add {b : Nat → Int32} : ∀ c1 c2 f (S : Nat → Int64), lm_fls b (c1 + c2) f S = lm_fls b c2 (f + c1) (lm_fls b c1 f S) := by
  intro c1
  induction c1 with
  | zero => intro c2 f S; rw [Nat.zero_add]; rfl
  | succ c1 ih =>
    intro c2 f S
    rw [show c1 + 1 + c2 = (c1 + c2) + 1 by omega, show f + (c1 + 1) = f + 1 + c1 by omega]
    exact ih c2 (f + 1) _
theorem lm_flp_lo {S S' : Nat → Int64} {f : Nat} {v : Int32} {N : Nat} (h : ∀ i, i < N → S i = S' i) : ∀ i, i < N → lm_flp S f v i = lm_flp S' f v i := by
  intro i hi
  unfold lm_flp
  by_cases c : i = f / 8
  · rw [if_pos c, if_pos c, h i hi]
  · rw [if_neg c, if_neg c, h i hi]
theorem lm_fls_lo {b : Nat → Int32} {N : Nat} : ∀ c f (S S' : Nat → Int64), (∀ i, i < N → S i = S' i) → ∀ i, i < N → lm_fls b c f S i = lm_fls b c f S' i := by
  intro c
  induction c with
  | zero => intro f S S' h; exact h
  | succ c ih =>
    intro f S S' h
    exact ih (f + 1) _ _ (lm_flp_lo h)
theorem lm_hw_f {k : Nat} {g : Nat → Int32} : ∀ c a (h : lm_HV), (lm_hw k g c a h).1 = h.1 + c := by
  intro c
  induction c with
  | zero => intro a h; rfl
  | succ c ih =>
    intro a h
    refine (ih (a + 1) _).trans ?_
    show h.1 + 1 + c = _
    omega
theorem lm_hw_t {k : Nat} {g : Nat → Int32} : ∀ c a (h : lm_HV), (lm_hw k g c a h).2.1 = h.2.1 + Int64.ofNat c := by
  intro c
  induction c with
  | zero => intro a h; show h.2.1 = h.2.1 + Int64.ofNat 0; simp
  | succ c ih =>
    intro a h
    refine (ih (a + 1) _).trans ?_
    show (h.2.1 + Int64.ofNat 1) + Int64.ofNat c = h.2.1 + Int64.ofNat (c + 1)
    rw [Int64.add_assoc, ← Int64.ofNat_add, Nat.add_comm 1 c]
theorem lm_hw_B {k : Nat} {g : Nat → Int32} (hk : ¬ 6 < k) : ∀ c a (h : lm_HV) i, (lm_hw k g c a h).2.2.2 i = if h.1 ≤ i ∧ i < h.1 + c then lm_b8 (g (a + (i - h.1))) else h.2.2.2 i := by
  intro c
  induction c with
  | zero => intro a h i; rw [if_neg (by omega)]; rfl
  | succ c ih =>
    intro a h i
    refine (ih (a + 1) _ i).trans ?_
    show (if h.1 + 1 ≤ i ∧ i < h.1 + 1 + c then lm_b8 (g (a + 1 + (i - (h.1 + 1)))) else lm_hB k (g a) h i) = _
    by_cases e : i = h.1
    · rw [if_neg (by omega), if_pos (by omega)]
      unfold lm_hB
      rw [if_neg hk, if_pos e, show a + (i - h.1) = a by omega]
    · by_cases e2 : h.1 ≤ i ∧ i < h.1 + (c + 1)
      · rw [if_pos (by omega), if_pos e2, show a + 1 + (i - (h.1 + 1)) = a + (i - h.1) by omega]
      · rw [if_neg (by omega), if_neg e2]
        unfold lm_hB
        rw [if_neg hk, if_neg e]
theorem lm_hw_S6 {k : Nat} {g : Nat → Int32} (hk : ¬ 6 < k) : ∀ c a (h : lm_HV), (lm_hw k g c a h).2.2.1 = h.2.2.1 := by
  intro c
  induction c with
  | zero => intro a h; rfl
  | succ c ih =>
    intro a h
    refine (ih (a + 1) _).trans ?_
    show lm_hS k (g a) h = _
    unfold lm_hS
    rw [if_neg hk]
theorem lm_hw_S {k : Nat} {g : Nat → Int32} (hk : 6 < k) : ∀ c a (h : lm_HV), (lm_hw k g c a h).2.2.1 = lm_fls (fun i => g (a + (i - h.1))) c h.1 h.2.2.1 := by
  intro c
  induction c with
  | zero => intro a h; rfl
  | succ c ih =>
    intro a h
    refine (ih (a + 1) _).trans ?_
    show lm_fls (fun i => g (a + 1 + (i - (h.1 + 1)))) c (h.1 + 1) (lm_hS k (g a) h) = lm_fls _ c (h.1 + 1) (lm_flp h.2.2.1 h.1 (g (a + (h.1 - h.1))))
    unfold lm_hS
    rw [if_pos hk, Nat.sub_self, Nat.add_zero]
    exact lm_fls_ext c (h.1 + 1) _ (fun i h1 h2 => by rw [show a + 1 + (i - (h.1 + 1)) = a + (i - h.1) by omega])
theorem lm_hps_lt {T : lm_TB} {k r : Nat} {g : Nat → Int32} : ∀ c a (h : lm_HV), h.1 + c < r → lm_hps T k r g c a h = lm_hw k g c a h := by
  intro c
  induction c with
  | zero => intro a h _; rfl
  | succ c ih =>
    intro a h hl
    show lm_hps T k r g c (a + 1) (lm_hp T k r (g a) h) = lm_hw k g c (a + 1) _
    have e : lm_hp T k r (g a) h = (h.1 + 1, h.2.1 + Int64.ofNat 1, lm_hS k (g a) h, lm_hB k (g a) h) := by
      unfold lm_hp
      rw [if_neg (by omega)]
    rw [e]
    exact ih (a + 1) _ (by show h.1 + 1 + c < r; omega)
theorem lm_hps_eq {T : lm_TB} {k r : Nat} {g : Nat → Int32} : ∀ c a (h : lm_HV), h.1 + (c + 1) = r → lm_hps T k r g (c + 1) a h = (0, (lm_hw k g (c + 1) a h).2.1, lm_cpr T k r (lm_hw k g (c + 1) a h).2.2.1 (lm_hw k g (c + 1) a h).2.2.2, (lm_hw k g (c + 1) a h).2.2.2) := by
  intro c
  induction c with
  | zero =>
    intro a h hl
    show lm_hp T k r (g a) h = (0, h.2.1 + Int64.ofNat 1, lm_cpr T k r (lm_hS k (g a) h) (lm_hB k (g a) h), lm_hB k (g a) h)
    unfold lm_hp
    rw [if_pos hl]
  | succ c ih =>
    intro a h hl
    show lm_hps T k r g (c + 1) (a + 1) (lm_hp T k r (g a) h) = _
    have e : lm_hp T k r (g a) h = (h.1 + 1, h.2.1 + Int64.ofNat 1, lm_hS k (g a) h, lm_hB k (g a) h) := by
      unfold lm_hp
      rw [if_neg (by omega)]
    rw [e]
    exact ih (a + 1) _ (by show h.1 + 1 + (c + 1) = r; omega)
theorem lm_hps_add {T : lm_TB} {k r : Nat} {g : Nat → Int32} : ∀ c1 c2 a (h : lm_HV), lm_hps T k r g (c1 + c2) a h = lm_hps T k r g c2 (a + c1) (lm_hps T k r g c1 a h) := by
  intro c1
  induction c1 with
  | zero => intro c2 a h; rw [Nat.zero_add]; rfl
  | succ c1 ih =>
    intro c2 a h
    rw [show c1 + 1 + c2 = (c1 + c2) + 1 by omega, show a + (c1 + 1) = a + 1 + c1 by omega]
    exact ih c2 (a + 1) _
theorem lm_hps_ext {T : lm_TB} {k r : Nat} {g g' : Nat → Int32} : ∀ c a (h : lm_HV), (∀ i, a ≤ i → i < a + c → g i = g' i) → lm_hps T k r g c a h = lm_hps T k r g' c a h := by
  intro c
  induction c with
  | zero => intro a h _; rfl
  | succ c ih =>
    intro a h e
    show lm_hps T k r g c (a + 1) (lm_hp T k r (g a) h) = lm_hps T k r g' c (a + 1) (lm_hp T k r (g' a) h)
    rw [e a (by omega) (by omega)]
    exact ih (a + 1) _ (fun i h1 h2 => e i (by omega) (by omega))
theorem lm_hps_f {T : lm_TB} {k r : Nat} {g : Nat → Int32} : ∀ c a (h : lm_HV), h.1 < r → (lm_hps T k r g c a h).1 < r := by
  intro c
  induction c with
  | zero => intro a h e; exact e
  | succ c ih => intro a h e; exact ih (a + 1) _ (lm_hp_lt e)
/-! what the compressions read -/
theorem lm_kc_lo {s s' : Nat → Int64} {a : Nat} (ha : a < 5) (h : ∀ i, i < 25 → s i = s' i) : lm_kc s a 5 = lm_kc s' a 5 := by
  rw [lm_kc5, lm_kc5]
  unfold lm_clm
  rw [h a (by omega), h (a + 5) (by omega), h (a + 10) (by omega), h (a + 15) (by omega), h (a + 20) (by omega)]
theorem lm_kT_lo {s s' : Nat → Int64} {i : Nat} (hi : i < 25) (h : ∀ i, i < 25 → s i = s' i) : lm_kT s i = lm_kT s' i := by
  unfold lm_kT
  rw [h i hi, lm_kc_lo (by omega) h, lm_kc_lo (by omega) h]
theorem lm_kP_lo {tr tr' : Nat → Int32} {s s' : Nat → Int64} {j : Nat} (hj : j < 25) (ht : ∀ i, i < 25 → tr i = tr' i) (h : ∀ i, i < 25 → s i = s' i) : lm_kP tr s j = lm_kP tr' s' j := by
  have e : lm_pa j + 5 * (j % 5) < 25 := by unfold lm_pa; omega
  unfold lm_kP
  rw [lm_kT_lo e h, ht _ e]
theorem lm_kR_lo {tr tr' : Nat → Int32} {rc : Int64} {s s' : Nat → Int64} (ht : ∀ i, i < 25 → tr i = tr' i) (h : ∀ i, i < 25 → s i = s' i) : ∀ i, i < 25 → lm_kR tr rc s i = lm_kR tr' rc s' i := by
  intro i hi
  have e : lm_kX (lm_kP tr s) i = lm_kX (lm_kP tr' s') i := by
    unfold lm_kX
    rw [lm_kP_lo hi ht h, lm_kP_lo (j := (i % 5 + 1) % 5 + 5 * (i / 5)) (by omega) ht h, lm_kP_lo (j := (i % 5 + 2) % 5 + 5 * (i / 5)) (by omega) ht h]
  unfold lm_kR
  rw [if_pos hi, if_pos hi, e]
theorem lm_kF_lo {tr tr' : Nat → Int32} {rc rc' : Nat → Int64} (ht : ∀ i, i < 25 → tr i = tr' i) (hc : ∀ t, t < 24 → rc t = rc' t) : ∀ k t (s s' : Nat → Int64), t + k ≤ 24 → (∀ i, i < 25 → s i = s' i) → ∀ i, i < 25 → lm_kF tr rc k t s i = lm_kF tr' rc' k t s' i := by
  intro k
  induction k with
  | zero => intro t s s' _ h; exact h
  | succ k ih =>
    intro t s s' hk h
    show ∀ i, i < 25 → lm_kF tr rc k (t + 1) (lm_kR tr (rc t) s) i = lm_kF tr' rc' k (t + 1) (lm_kR tr' (rc' t) s') i
    rw [hc t (by omega)]
    exact ih (t + 1) _ _ (by omega) (lm_kR_lo ht h)
theorem lm_wv_lo {g g' : Nat → Int64} : ∀ k t x, (∀ i, t ≤ i → i < t + k → g i = g' i) → lm_wv g k t x = lm_wv g' k t x := by
  intro k
  induction k with
  | zero => intro t x _; rfl
  | succ k ih =>
    intro t x h
    unfold lm_wv
    rw [h t (by omega) (by omega)]
    exact ih (t + 1) _ (fun i h1 h2 => h i (by omega) (by omega))
theorem lm_bw_lo {b b' : Nat → Int32} {t : Nat} (ht : t < 16) (h : ∀ i, i < 128 → lm_b8 (b i) = lm_b8 (b' i)) : lm_bw b t = lm_bw b' t := by
  unfold lm_bw
  exact lm_wv_lo 8 _ _ (fun i h1 h2 => by rw [h i (by omega)])
theorem lm_wsc_lo {b b' : Nat → Int32} (h : ∀ i, i < 128 → lm_b8 (b i) = lm_b8 (b' i)) : ∀ j t, t < 16 + j → lm_wsc b j t = lm_wsc b' j t := by
  intro j
  induction j with
  | zero => intro t ht; exact lm_bw_lo ht h
  | succ j ih =>
    intro t ht
    show (if t = 16 + j then lm_sg (lm_wsc b j) (16 + j) else lm_wsc b j t) = (if t = 16 + j then lm_sg (lm_wsc b' j) (16 + j) else lm_wsc b' j t)
    by_cases c : t = 16 + j
    · rw [if_pos c, if_pos c]
      unfold lm_sg
      rw [ih (16 + j - 2) (by omega), ih (16 + j - 7) (by omega), ih (16 + j - 15) (by omega), ih (16 + j - 16) (by omega)]
    · rw [if_neg c, if_neg c]
      exact ih t (by omega)
theorem lm_r5_lo {K K' W W' : Nat → Int64} (hK : ∀ t, t < 80 → K t = K' t) (hW : ∀ t, t < 80 → W t = W' t) : ∀ k t s, t + k ≤ 80 → lm_r5 K W k t s = lm_r5 K' W' k t s := by
  intro k
  induction k with
  | zero => intro t s _; rfl
  | succ k ih =>
    intro t s h
    show lm_r5 K W k (t + 1) (lm_t5 (K t) (W t) s) = lm_r5 K' W' k (t + 1) (lm_t5 (K' t) (W' t) s)
    rw [hK t (by omega), hW t (by omega)]
    exact ih (t + 1) _ (by omega)
theorem lm_cc5_lo {K K' S S' : Nat → Int64} {b b' : Nat → Int32} (hK : ∀ t, t < 80 → K t = K' t) (hS : ∀ i, i < 8 → S i = S' i) (h : ∀ i, i < 128 → lm_b8 (b i) = lm_b8 (b' i)) : ∀ i, i < 8 → lm_cc5 K S b i = lm_cc5 K' S' b' i := by
  intro i hi
  unfold lm_cc5
  have e : lm_of8 S = lm_of8 S' := by
    unfold lm_of8
    rw [hS 0 (by decide), hS 1 (by decide), hS 2 (by decide), hS 3 (by decide), hS 4 (by decide), hS 5 (by decide), hS 6 (by decide), hS 7 (by decide)]
  rw [lm_r5_lo hK (W' := lm_wsc b' 64) (fun t ht => lm_wsc_lo h 64 t ht) 80 0 _ (by decide), e]
  generalize lm_r5 K' (lm_wsc b' 64) 80 0 (lm_of8 S') = r
  have h := hS i hi
  match i, hi with
  | 0, _ => exact congrArg (· + _) h
  | 1, _ => exact congrArg (· + _) h
  | 2, _ => exact congrArg (· + _) h
  | 3, _ => exact congrArg (· + _) h
  | 4, _ => exact congrArg (· + _) h
  | 5, _ => exact congrArg (· + _) h
  | 6, _ => exact congrArg (· + _) h
  | 7, _ => exact congrArg (· + _) h
theorem lm_vw_lo {g g' : Nat → Int32} : ∀ k t x, (∀ i, t ≤ i → i < t + k → g i = g' i) → lm_vw g k t x = lm_vw g' k t x := by
  intro k
  induction k with
  | zero => intro t x _; rfl
  | succ k ih =>
    intro t x h
    unfold lm_vw
    rw [h t (by omega) (by omega)]
    exact ih (t + 1) _ (fun i h1 h2 => h i (by omega) (by omega))
theorem lm_vs_lo {b b' : Nat → Int32} (h : ∀ i, i < 64 → lm_b8 (b i) = lm_b8 (b' i)) : ∀ j t, t < 16 + j → lm_vs b j t = lm_vs b' j t := by
  intro j
  induction j with
  | zero =>
    intro t ht
    show lm_bv b t = lm_bv b' t
    unfold lm_bv
    exact lm_vw_lo 4 _ _ (fun i h1 h2 => by rw [h i (by omega)])
  | succ j ih =>
    intro t ht
    show (if t = 16 + j then lm_sv2 (lm_vs b j) (16 + j) else lm_vs b j t) = (if t = 16 + j then lm_sv2 (lm_vs b' j) (16 + j) else lm_vs b' j t)
    by_cases c : t = 16 + j
    · rw [if_pos c, if_pos c]
      unfold lm_sv2
      rw [ih (16 + j - 2) (by omega), ih (16 + j - 7) (by omega), ih (16 + j - 15) (by omega), ih (16 + j - 16) (by omega)]
    · rw [if_neg c, if_neg c]
      exact ih t (by omega)
theorem lm_r2_lo {K K' W W' : Nat → Int32} (hK : ∀ t, t < 64 → K t = K' t) (hW : ∀ t, t < 64 → W t = W' t) : ∀ k t s, t + k ≤ 64 → lm_r2 K W k t s = lm_r2 K' W' k t s := by
  intro k
  induction k with
  | zero => intro t s _; rfl
  | succ k ih =>
    intro t s h
    show lm_r2 K W k (t + 1) (lm_t2 (K t) (W t) s) = lm_r2 K' W' k (t + 1) (lm_t2 (K' t) (W' t) s)
    rw [hK t (by omega), hW t (by omega)]
    exact ih (t + 1) _ (by omega)
theorem lm_cv2_lo {K K' : Nat → Int64} {S : Nat → Int32} {b b' : Nat → Int32} (hK : ∀ t, t < 80 → K t = K' t) (h : ∀ i, i < 64 → lm_b8 (b i) = lm_b8 (b' i)) : lm_cv2 K S b = lm_cv2 K' S b' := by
  unfold lm_cv2
  rw [lm_r2_lo (K := lm_kw K) (K' := lm_kw K') (fun t ht => by unfold lm_kw; rw [hK t (by omega)]) (W' := lm_vs b' 48) (fun t ht => lm_vs_lo h 48 t ht) 64 0 _ (by decide)]
/-! a block of a sponge, word by word -/
theorem lm_b255 : ∀ j, j < 64 → (255#64).getLsbD j = decide (j < 8) := by decide
theorem lm_orx (x : Int64) (v : Int64) : (x <<< ((Int32.toInt64 (Int32.ofInt 8)) &&& 63)) ||| (v &&& Int64.ofNat 255) = (x <<< ((Int32.toInt64 (Int32.ofInt 8)) &&& 63)) ^^^ (v &&& Int64.ofNat 255) := by
  apply Int64.toBitVec_inj.mp
  show (x.toBitVec <<< 8) ||| (v.toBitVec &&& 255#64) = (x.toBitVec <<< 8) ^^^ (v.toBitVec &&& 255#64)
  refine BitVec.eq_of_getLsbD_eq fun i hi => ?_
  rw [BitVec.getLsbD_or, BitVec.getLsbD_xor, BitVec.getLsbD_shiftLeft, BitVec.getLsbD_and, lm_b255 i hi]
  by_cases c : i < 8
  · simp [c]
  · simp [c]
