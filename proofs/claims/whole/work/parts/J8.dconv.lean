/-! ===== Dsa: the transform and products ===== -/
theorem lm_sg_z (n : Nat) : ln_sg n (fun _ => 0) = 0 := by
  induction n with
  | zero => rfl
  | succ n ih =>
    show ln_sg n (fun _ => 0) + 0 = 0
    rw [ih]
    rfl
theorem lm_sg_swap {f : Nat → Nat → Int} (a b : Nat) : ln_sg a (fun i => ln_sg b (fun j => f i j)) = ln_sg b (fun j => ln_sg a (fun i => f i j)) := by
  induction a with
  | zero => exact (lm_sg_z b).symm
  | succ a ih =>
    show ln_sg a (fun i => ln_sg b (fun j => f i j)) + ln_sg b (fun j => f a j) = ln_sg b (fun j => ln_sg a (fun i => f i j) + f a j)
    rw [ih, lm_sg_plus]
theorem lm_sg_d0 {F : Nat → Int} {w : Int} {j : Nat} : ∀ n, n ≤ j → ln_sg n (fun t => F t * (if t = j then w else 0)) = 0 := by
  intro n
  induction n with
  | zero => intro _; rfl
  | succ n ih =>
    intro h
    show ln_sg n (fun t => F t * (if t = j then w else 0)) + F n * (if n = j then w else 0) = 0
    rw [ih (by omega), if_neg (by omega), Int.mul_zero]
    rfl
theorem lm_sg_dl {F : Nat → Int} {w : Int} {j : Nat} : ∀ n, j < n → ln_sg n (fun t => F t * (if t = j then w else 0)) = F j * w := by
  intro n
  induction n with
  | zero => intro h; omega
  | succ n ih =>
    intro h
    show ln_sg n (fun t => F t * (if t = j then w else 0)) + F n * (if n = j then w else 0) = F j * w
    by_cases c : n = j
    · subst c
      rw [lm_sg_d0 n (by omega), if_pos rfl, Int.zero_add]
    · rw [ih (by omega), if_neg c, Int.mul_zero, Int.add_zero]
theorem lm_sq2 (w : Int) : w ^ 2 = w * w := by rw [Int.pow_succ, Int.pow_succ, Int.pow_zero, Int.one_mul]
theorem lm_pw_neg (z : Int) (e : Nat) : (-z) ^ (2 * e) = z ^ (2 * e) ∧ (-z) ^ (2 * e + 1) = -(z ^ (2 * e + 1)) := by
  have h : (-z) ^ (2 * e) = z ^ (2 * e) := by rw [Int.pow_mul, Int.pow_mul, lm_sq2, lm_sq2, Int.neg_mul_neg]
  exact ⟨h, by rw [Int.pow_succ, h, Int.mul_neg, ← Int.pow_succ]⟩
/-- the powers' sum at a level of the tree -/
def lm_gS (N d : Nat) : Int := ln_sg N (fun i => lm_gm lm_zd (N + i) ^ d)
theorem lm_zd_cg {k : Nat} (h1 : 1 ≤ k) (h2 : k < 256) : ln_cg 8380417 (lm_zd k * lm_zd k) (lm_gm lm_zd k) := ln_cg.ofe (lm_zd_sq k h2 h1)
theorem lm_gS_e {N e : Nat} (h1 : 1 ≤ N) (h2 : N ≤ 128) : ln_cg 8380417 (lm_gS (2 * N) (2 * e)) (2 * lm_gS N e) := by
  unfold lm_gS
  rw [lm_sg_2]
  have h : ∀ i, i < N → ln_cg 8380417 (lm_zd (N + i) ^ (2 * e)) (lm_gm lm_zd (N + i) ^ e) := fun i hi => by
    rw [Int.pow_mul, lm_sq2]
    exact (lm_zd_cg (by omega) (by omega)).pw e
  refine (ln_cg.ad (lm_sg_cg (g := fun i => lm_gm lm_zd (N + i) ^ e) fun i hi => ?_) (lm_sg_cg (g := fun i => lm_gm lm_zd (N + i) ^ e) fun i hi => ?_)).tr (.of (by omega))
  · show ln_cg 8380417 (lm_gm lm_zd (2 * N + 2 * i) ^ (2 * e)) (lm_gm lm_zd (N + i) ^ e)
    rw [show 2 * N + 2 * i = 2 * (N + i) by omega, lm_gm_0]
    exact h i hi
  · show ln_cg 8380417 (lm_gm lm_zd (2 * N + (2 * i + 1)) ^ (2 * e)) (lm_gm lm_zd (N + i) ^ e)
    rw [show 2 * N + (2 * i + 1) = 2 * (N + i) + 1 by omega, lm_gm_1, (lm_pw_neg _ e).1]
    exact h i hi
theorem lm_gS_o {N e : Nat} : lm_gS (2 * N) (2 * e + 1) = 0 := by
  unfold lm_gS
  rw [lm_sg_2, ← lm_sg_plus]
  refine Eq.trans (lm_sg_ext fun i hi => ?_) (lm_sg_z N)
  show lm_gm lm_zd (2 * N + 2 * i) ^ (2 * e + 1) + lm_gm lm_zd (2 * N + (2 * i + 1)) ^ (2 * e + 1) = 0
  rw [show 2 * N + 2 * i = 2 * (N + i) by omega, lm_gm_0, show 2 * N + (2 * i + 1) = 2 * (N + i) + 1 by omega, lm_gm_1, (lm_pw_neg _ e).2]
  omega
theorem lm_p2b {L : Nat} (h : L + 1 ≤ 8) : 1 ≤ 2 ^ L ∧ 2 ^ L ≤ 128 := ⟨Nat.one_le_two_pow, Nat.pow_le_pow_right (n := 2) (by decide) (show L ≤ 7 by omega)⟩
theorem lm_gS_v : ∀ L, L ≤ 8 → ∀ d, 1 ≤ d → d < 2 ^ L → ln_cg 8380417 (lm_gS (2 ^ L) d) 0 := by
  intro L
  induction L with
  | zero => intro _ d h1 h2; exact absurd h2 (by rw [Nat.pow_zero]; omega)
  | succ L ih =>
    intro hL d h1 h2
    have hb := lm_p2b hL
    rw [Nat.pow_succ, Nat.mul_comm] at h2 ⊢
    by_cases c : d % 2 = 0
    · rw [show d = 2 * (d / 2) by omega]
      exact (lm_gS_e hb.1 hb.2).tr ((ln_cg.rf.mu (ih (by omega) (d / 2) (by omega) (by omega))).tr (.of (Int.mul_zero 2)))
    · rw [show d = 2 * (d / 2) + 1 by omega, lm_gS_o]
      exact ln_cg.rf
theorem lm_gm_top : ∀ L, L ≤ 8 → ∀ i, i < 2 ^ L → ln_cg 8380417 (lm_gm lm_zd (2 ^ L + i) ^ 2 ^ L) (-1) := by
  intro L
  induction L with
  | zero =>
    intro _ i h
    have e : i = 0 := by rw [Nat.pow_zero] at h; omega
    subst e
    exact .of (by decide)
  | succ L ih =>
    intro hL i h
    have hb := lm_p2b hL
    rw [Nat.pow_succ, Nat.mul_comm] at h ⊢
    have g : ln_cg 8380417 (lm_gm lm_zd (2 * 2 ^ L + i) ^ 2) (lm_gm lm_zd (2 ^ L + i / 2)) := by
      rw [lm_sq2]
      by_cases c : i % 2 = 0
      · rw [show 2 * 2 ^ L + i = 2 * (2 ^ L + i / 2) by omega, lm_gm_0]
        exact lm_zd_cg (by omega) (by omega)
      · rw [show 2 * 2 ^ L + i = 2 * (2 ^ L + i / 2) + 1 by omega, lm_gm_1, Int.neg_mul_neg]
        exact lm_zd_cg (by omega) (by omega)
    rw [Int.pow_mul]
    exact (g.pw _).tr (ih (by omega) (i / 2) (by omega))
set_option maxRecDepth 100000 in
theorem lm_dDg : ∀ c, c < 256 → lm_dD c * lm_gm lm_zd (256 + c) % 8380417 = 1 := by decide +kernel
theorem lm_inv_pw {g D : Int} (h : ln_cg 8380417 (D * g) 1) (k : Nat) : ln_cg 8380417 (g ^ k * D ^ k) 1 := by
  induction k with
  | zero => exact .of (by rw [Int.pow_zero, Int.pow_zero]; rfl)
  | succ k ih =>
    rw [Int.pow_succ, Int.pow_succ, show g ^ k * g * (D ^ k * D) = g ^ k * D ^ k * (D * g) by ac_rfl]
    exact (ih.mu h).tr (.of rfl)
theorem lm_orth {a j : Nat} (ha : a < 256) (hj : j < 256) : ln_cg 8380417 (ln_sg 256 (fun c => lm_gm lm_zd (256 + c) ^ a * lm_dD c ^ j)) (if a = j then 256 else 0) := by
  have one : ∀ c, c < 256 → ln_cg 8380417 (lm_dD c * lm_gm lm_zd (256 + c)) 1 := fun c hc => ln_cg.ofe (by rw [lm_dDg c hc]; rfl)
  have top : ∀ c, c < 256 → ln_cg 8380417 (lm_gm lm_zd (256 + c) ^ 256) (-1) := fun c hc => lm_gm_top 8 (by decide) c hc
  have van : ∀ d, 1 ≤ d → d < 256 → ln_cg 8380417 (ln_sg 256 (fun i => lm_gm lm_zd (256 + i) ^ d)) 0 := fun d h1 h2 => lm_gS_v 8 (by decide) d h1 h2
  by_cases c0 : j ≤ a
  · have h : ln_cg 8380417 (ln_sg 256 (fun c => lm_gm lm_zd (256 + c) ^ a * lm_dD c ^ j)) (ln_sg 256 (fun i => lm_gm lm_zd (256 + i) ^ (a - j))) := lm_sg_cg fun c hc => by
      rw [show lm_gm lm_zd (256 + c) ^ a = lm_gm lm_zd (256 + c) ^ (a - j) * lm_gm lm_zd (256 + c) ^ j by rw [← Int.pow_add, show a - j + j = a by omega], Int.mul_assoc]
      exact (ln_cg.rf.mu (lm_inv_pw (one c hc) j)).tr (.of (Int.mul_one _))
    by_cases c1 : a = j
    · rw [if_pos c1]
      refine h.tr (.of ?_)
      rw [show a - j = 0 by omega]
      refine Eq.trans (lm_sg_ext (g := fun _ => 1) fun i _ => Int.pow_zero _) ?_
      decide +kernel
    · rw [if_neg c1]
      exact h.tr (van _ (by omega) (by omega))
  · rw [if_neg (by omega)]
    have h : ln_cg 8380417 (ln_sg 256 (fun c => lm_gm lm_zd (256 + c) ^ a * lm_dD c ^ j)) (ln_sg 256 (fun i => lm_gm lm_zd (256 + i) ^ (256 - (j - a)) * (-1))) := lm_sg_cg fun c hc => by
      rw [show lm_dD c ^ j = lm_dD c ^ a * lm_dD c ^ (j - a) by rw [← Int.pow_add, show a + (j - a) = j by omega], ← Int.mul_assoc]
      refine ((lm_inv_pw (one c hc) a).mu ln_cg.rf).tr ((ln_cg.of (Int.one_mul _)).tr ?_)
      have t : ln_cg 8380417 (lm_gm lm_zd (256 + c) ^ (256 - (j - a)) * lm_gm lm_zd (256 + c) ^ (j - a)) (-1) := by
        rw [← Int.pow_add, show 256 - (j - a) + (j - a) = 256 by omega]
        exact top c hc
      have i := lm_inv_pw (one c hc) (j - a)
      clear one top van
      generalize lm_gm lm_zd (256 + c) = g at *
      generalize lm_dD c = D at *
      -- D^k = -(-1) D^k = -(g^(256-k) g^k) D^k = -g^(256-k)
      have e1 : ln_cg 8380417 (D ^ (j - a)) (D ^ (j - a) * (-1) * (-1)) := .of (by omega)
      refine e1.tr ((ln_cg.mu (ln_cg.mu ln_cg.rf t.sy) ln_cg.rf).tr ?_)
      rw [show D ^ (j - a) * (g ^ (256 - (j - a)) * g ^ (j - a)) * -1 = g ^ (256 - (j - a)) * (-1) * (g ^ (j - a) * D ^ (j - a)) by ac_rfl]
      exact (ln_cg.mu ln_cg.rf i).tr (.of (Int.mul_one _))
    refine h.tr ?_
    rw [lm_sg_mul]
    exact (ln_cg.mu (van _ (by omega) (by omega)) ln_cg.rf).tr (.of rfl)
/-- there and back -/
theorem lm_ut_pt {F : Nat → Int} {j : Nat} (hj : j < 256) : ln_cg 8380417 (lm_ut (ln_pt F) j) (F j) := by
  unfold lm_ut ln_pt
  have e : ln_sg 256 (fun c => ln_sg 256 (fun t => F t * lm_gm lm_zd (256 + c) ^ t) * lm_dD c ^ j) = ln_sg 256 (fun t => ln_sg 256 (fun c => lm_gm lm_zd (256 + c) ^ t * lm_dD c ^ j) * F t) := by
    refine Eq.trans (lm_sg_ext fun c _ => (lm_sg_mul 256 (lm_dD c ^ j)).symm) (Eq.trans (lm_sg_swap 256 256) (lm_sg_ext fun t _ => ?_))
    refine Eq.trans (lm_sg_ext fun c _ => ?_) (lm_sg_mul 256 (F t))
    show F t * lm_gm lm_zd (256 + c) ^ t * lm_dD c ^ j = lm_gm lm_zd (256 + c) ^ t * lm_dD c ^ j * F t
    ac_rfl
  rw [e]
  have h : ln_cg 8380417 (ln_sg 256 (fun t => ln_sg 256 (fun c => lm_gm lm_zd (256 + c) ^ t * lm_dD c ^ j) * F t)) (ln_sg 256 (fun t => F t * (if t = j then 256 else 0))) := lm_sg_cg fun t ht => ((lm_orth ht hj).mu ln_cg.rf).tr (.of (Int.mul_comm _ _))
  refine (h.mu ln_cg.rf).tr ?_
  rw [lm_sg_dl 256 hj, Int.mul_assoc]
  exact (ln_cg.mu ln_cg.rf (show ln_cg 8380417 (256 * 8347681) 1 from ln_cg.ofe (by decide))).tr (.of (Int.mul_one _))
/-- the product of two polynomials, X^256 = -1 -/
def lm_ng (B F : Nat → Int) (k : Nat) : Int := ln_sg 256 (fun a => B a * (if a ≤ k then F (k - a) else -F (256 + k - a)))
theorem lm_pt_ng {B F : Nat → Int} {j : Nat} (hj : j < 256) : ln_cg 8380417 (ln_pt (lm_ng B F) j) (ln_pt B j * ln_pt F j) := by
  have top : ln_cg 8380417 (lm_gm lm_zd (256 + j) ^ 256) (-1) := lm_gm_top 8 (by decide) j hj
  unfold ln_pt
  generalize lm_gm lm_zd (256 + j) = g at *
  have e : ln_sg 256 (fun k => lm_ng B F k * g ^ k) = ln_sg 256 (fun a => ln_sg 256 (fun k => B a * (if a ≤ k then F (k - a) else -F (256 + k - a)) * g ^ k)) := by
    refine Eq.trans (lm_sg_ext fun k _ => ?_) (lm_sg_swap 256 256)
    show lm_ng B F k * g ^ k = ln_sg 256 (fun a => B a * (if a ≤ k then F (k - a) else -F (256 + k - a)) * g ^ k)
    rw [lm_sg_mul]
    unfold lm_ng
    rfl
  rw [e, ← lm_sg_mul]
  refine lm_sg_cg fun a ha => ?_
  have h1 : ln_sg 256 (fun k => B a * (if a ≤ k then F (k - a) else -F (256 + k - a)) * g ^ k) = ln_sg a (fun k => B a * -F (256 + k - a) * g ^ k) + ln_sg (256 - a) (fun i => (F i * g ^ i) * (B a * g ^ a)) := by
    have s := lm_sg_add (f := fun k => B a * (if a ≤ k then F (k - a) else -F (256 + k - a)) * g ^ k) a (256 - a)
    rw [show a + (256 - a) = 256 by omega] at s
    rw [s]
    refine congr (congrArg HAdd.hAdd (lm_sg_ext fun k hk => ?_)) (lm_sg_ext fun i hi => ?_)
    · show B a * (if a ≤ k then F (k - a) else -F (256 + k - a)) * g ^ k = _
      rw [if_neg (by omega)]
    · show B a * (if a ≤ a + i then F (a + i - a) else -F (256 + (a + i) - a)) * g ^ (a + i) = F i * g ^ i * (B a * g ^ a)
      rw [if_pos (by omega), show a + i - a = i by omega, Int.pow_add]
      ac_rfl
  have h2 : ln_sg 256 (fun t => F t * g ^ t) = ln_sg (256 - a) (fun t => F t * g ^ t) + ln_sg a (fun k => F (256 - a + k) * g ^ (256 - a + k)) := by
    have s := lm_sg_add (f := fun t => F t * g ^ t) (256 - a) a
    rw [show 256 - a + a = 256 by omega] at s
    exact s
  have h3 : ln_cg 8380417 (ln_sg a (fun k => B a * -F (256 + k - a) * g ^ k)) (ln_sg a (fun k => F (256 - a + k) * g ^ (256 - a + k)) * (B a * g ^ a)) := by
    rw [← lm_sg_mul]
    refine lm_sg_cg fun k hk => ?_
    show ln_cg 8380417 (B a * -F (256 + k - a) * g ^ k) (F (256 - a + k) * g ^ (256 - a + k) * (B a * g ^ a))
    have t : ln_cg 8380417 (g ^ (256 - a) * g ^ a) (-1) := by
      rw [← Int.pow_add, show 256 - a + a = 256 by omega]
      exact top
    rw [show 256 + k - a = 256 - a + k by omega, Int.pow_add, show F (256 - a + k) * (g ^ (256 - a) * g ^ k) * (B a * g ^ a) = B a * F (256 - a + k) * g ^ k * (g ^ (256 - a) * g ^ a) by ac_rfl]
    refine (ln_cg.of ?_).tr (ln_cg.mu ln_cg.rf t.sy)
    rw [Int.mul_neg, Int.neg_mul, Int.mul_neg, Int.mul_one]
  have h4 : B a * g ^ a * (ln_sg (256 - a) (fun t => F t * g ^ t) + ln_sg a (fun k => F (256 - a + k) * g ^ (256 - a + k))) = ln_sg a (fun k => F (256 - a + k) * g ^ (256 - a + k)) * (B a * g ^ a) + ln_sg (256 - a) (fun t => F t * g ^ t) * (B a * g ^ a) := by
    rw [Int.mul_add, Int.add_comm, Int.mul_comm, Int.mul_comm (B a * g ^ a)]
  show ln_cg 8380417 (ln_sg 256 (fun k => B a * (if a ≤ k then F (k - a) else -F (256 + k - a)) * g ^ k)) (B a * g ^ a * ln_sg 256 (fun t => F t * g ^ t))
  rw [h1, h2, h4, ← lm_sg_mul (n := 256 - a)]
  exact h3.ad ln_cg.rf
/-- a product by way of the transform -/
theorem lm_ut_mul {B F X Y : Nat → Int} {k : Nat} (hX : ∀ c, c < 256 → ln_cg 8380417 (X c) (ln_pt B c)) (hY : ∀ c, c < 256 → ln_cg 8380417 (Y c) (ln_pt F c)) (hk : k < 256) : ln_cg 8380417 (lm_ut (fun c => X c * Y c) k) (lm_ng B F k) := (lm_ut_cg (fun c hc => ((hX c hc).mu (hY c hc)).tr (lm_pt_ng hc).sy) k).tr (lm_ut_pt hk)
