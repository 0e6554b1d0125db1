/-! ===== congruences, sums, a loop ===== -/
def ln_cg (q a b : Int) : Prop := ∃ k, a = b + q * k
section LMCG
variable {q a b c d : Int}
theorem ln_cg.rf : ln_cg q a a := ⟨0, by rw [Int.mul_zero, Int.add_zero]⟩
theorem ln_cg.of (h : a = b) : ln_cg q a b := by subst h; exact ln_cg.rf
theorem ln_cg.sy (h : ln_cg q a b) : ln_cg q b a := by
  obtain ⟨k, e⟩ := h
  exact ⟨-k, by rw [e, Int.mul_neg]; omega⟩
theorem ln_cg.tr (h : ln_cg q a b) (g : ln_cg q b c) : ln_cg q a c := by
  obtain ⟨k, e⟩ := h
  obtain ⟨j, f⟩ := g
  exact ⟨j + k, by rw [e, f, Int.mul_add]; omega⟩
theorem ln_cg.ad (h : ln_cg q a b) (g : ln_cg q c d) : ln_cg q (a + c) (b + d) := by
  obtain ⟨k, e⟩ := h
  obtain ⟨j, f⟩ := g
  exact ⟨k + j, by rw [e, f, Int.mul_add]; omega⟩
theorem ln_cg.ng (h : ln_cg q a b) : ln_cg q (-a) (-b) := by
  obtain ⟨k, e⟩ := h
  exact ⟨-k, by rw [e, Int.mul_neg]; omega⟩
theorem ln_cg.sb (h : ln_cg q a b) (g : ln_cg q c d) : ln_cg q (a - c) (b - d) := by
  rw [Int.sub_eq_add_neg, Int.sub_eq_add_neg]
  exact h.ad g.ng
theorem ln_cg.mu (h : ln_cg q a b) (g : ln_cg q c d) : ln_cg q (a * c) (b * d) := by
  obtain ⟨k, e⟩ := h
  obtain ⟨j, f⟩ := g
  refine ⟨b * j + k * d + k * q * j, ?_⟩
  subst e
  subst f
  grind
theorem ln_cg.pw (h : ln_cg q a b) (n : Nat) : ln_cg q (a ^ n) (b ^ n) := by
  induction n with
  | zero => rw [Int.pow_zero, Int.pow_zero]; exact ln_cg.rf
  | succ n ih =>
    rw [Int.pow_succ, Int.pow_succ]
    exact ih.mu h
theorem ln_cg.em : ln_cg q (a % q) a := ⟨-(a / q), by rw [Int.mul_neg, Int.emod_def]; omega⟩
theorem ln_cg.tm : ln_cg q (a.tmod q) a := ⟨-(a.tdiv q), by rw [Int.mul_neg, Int.tmod_def]; omega⟩
theorem ln_cg.eq (h : ln_cg q a b) : a % q = b % q := by
  obtain ⟨k, e⟩ := h
  rw [e, Int.add_mul_emod_self_left]
theorem ln_cg.ofe (h : a % q = b % q) : ln_cg q a b := (ln_cg.em (a := a) (q := q)).sy.tr ((ln_cg.of h).tr ln_cg.em)
end LMCG
/-- a sum -/
def ln_sg : Nat → (Nat → Int) → Int
  | 0, _ => 0
  | n + 1, f => ln_sg n f + f n
section LMSG
variable {q : Int} {f g : Nat → Int}
theorem lm_sg_ext : ∀ {n : Nat}, (∀ i, i < n → f i = g i) → ln_sg n f = ln_sg n g := by
  intro n
  induction n with
  | zero => intro _; rfl
  | succ n ih =>
    intro h
    show ln_sg n f + f n = ln_sg n g + g n
    rw [ih fun i hi => h i (by omega), h n (by omega)]
theorem lm_sg_cg : ∀ {n : Nat}, (∀ i, i < n → ln_cg q (f i) (g i)) → ln_cg q (ln_sg n f) (ln_sg n g) := by
  intro n
  induction n with
  | zero => intro _; exact ln_cg.rf
  | succ n ih =>
    intro h
    exact (ih fun i hi => h i (by omega)).ad (h n (by omega))
theorem lm_sg_2 (n : Nat) : ln_sg (2 * n) f = ln_sg n (fun t => f (2 * t)) + ln_sg n (fun t => f (2 * t + 1)) := by
  induction n with
  | zero => rfl
  | succ n ih =>
    show ln_sg (2 * n) f + f (2 * n) + f (2 * n + 1) = (ln_sg n (fun t => f (2 * t)) + f (2 * n)) + (ln_sg n (fun t => f (2 * t + 1)) + f (2 * n + 1))
    rw [ih]
    omega
theorem lm_sg_add (a b : Nat) : ln_sg (a + b) f = ln_sg a f + ln_sg b (fun i => f (a + i)) := by
  induction b with
  | zero => exact (Int.add_zero _).symm
  | succ b ih =>
    show ln_sg (a + b) f + f (a + b) = ln_sg a f + (ln_sg b (fun i => f (a + i)) + f (a + b))
    rw [ih, Int.add_assoc]
theorem lm_sg_mul (n : Nat) (c : Int) : ln_sg n (fun t => f t * c) = ln_sg n f * c := by
  induction n with
  | zero => exact (Int.zero_mul c).symm
  | succ n ih =>
    show ln_sg n (fun t => f t * c) + f n * c = (ln_sg n f + f n) * c
    rw [ih, Int.add_mul]
theorem lm_sg_plus (n : Nat) : ln_sg n (fun t => f t + g t) = ln_sg n f + ln_sg n g := by
  induction n with
  | zero => rfl
  | succ n ih =>
    show ln_sg n (fun t => f t + g t) + (f n + g n) = ln_sg n f + f n + (ln_sg n g + g n)
    rw [ih]
    omega
theorem lm_sg_bd {B : Int} : ∀ {n : Nat}, (∀ i, i < n → 0 ≤ f i ∧ f i ≤ B) → 0 ≤ ln_sg n f ∧ ln_sg n f ≤ n * B := by
  intro n
  induction n with
  | zero => intro _; exact ⟨Int.le_refl _, by rw [Int.natCast_zero, Int.zero_mul]; exact Int.le_refl _⟩
  | succ n ih =>
    intro h
    have a := ih fun i hi => h i (by omega)
    have b := h n (by omega)
    have e : ((n + 1 : Nat) : Int) * B = n * B + B := by rw [Int.natCast_succ, Int.add_mul, Int.one_mul]
    show 0 ≤ ln_sg n f + f n ∧ ln_sg n f + f n ≤ ((n + 1 : Nat) : Int) * B
    rw [e]
    omega
end LMSG
/-- a loop that counts: the frame at a, at last the frame at b -/
theorem lm_lp {sc : lm_H} {d b : Nat} {hs : List (Nat × Nat)} {code : Nat → List lm_E} {x : lm_H × Nat × Nat} {fr : Nat → lm_F} {I : Nat → lm_MI → lm_ML → Prop} (step : ∀ i, i < b → ∀ m n, I i m n → ∃ m' n', I (i + 1) m' n' ∧ ∀ R, lm_rn sc d hs code (fr (i + 1)) (lm_w m' n' x) = some R → lm_rn sc d hs code (fr i) (lm_w m n x) = some R) : ∀ j a, a + j = b → ∀ m n, I a m n → ∃ m' n', I b m' n' ∧ ∀ R, lm_rn sc d hs code (fr b) (lm_w m' n' x) = some R → lm_rn sc d hs code (fr a) (lm_w m n x) = some R := by
  intro j
  induction j with
  | zero =>
    intro a ha m n h
    have ha : a = b := ha
    subst ha
    exact ⟨m, n, h, fun R K => K⟩
  | succ j ih =>
    intro a ha m n h
    obtain ⟨m1, n1, h1, k1⟩ := step a (by omega) m n h
    obtain ⟨m2, n2, h2, k2⟩ := ih (a + 1) (by omega) m1 n1 h1
    exact ⟨m2, n2, h2, fun R K => k1 R (k2 R K)⟩
/-- the same, with the steps from a on alone -/
theorem lm_lpa {sc : lm_H} {d a b : Nat} {hs : List (Nat × Nat)} {code : Nat → List lm_E} {x : lm_H × Nat × Nat} {fr : Nat → lm_F} {I : Nat → lm_MI → lm_ML → Prop} (hab : a ≤ b) (step : ∀ i, a ≤ i → i < b → ∀ m n, I i m n → ∃ m' n', I (i + 1) m' n' ∧ ∀ R, lm_rn sc d hs code (fr (i + 1)) (lm_w m' n' x) = some R → lm_rn sc d hs code (fr i) (lm_w m n x) = some R) (m : lm_MI) (n : lm_ML) (h : I a m n) : ∃ m' n', I b m' n' ∧ ∀ R, lm_rn sc d hs code (fr b) (lm_w m' n' x) = some R → lm_rn sc d hs code (fr a) (lm_w m n x) = some R := by
  obtain ⟨m', n', h1, h2⟩ := lm_lp (sc := sc) (d := d) (b := b) (hs := hs) (code := code) (x := x) (fr := fr) (I := fun i m n => a ≤ i ∧ I i m n) (fun i hi m n g => by
    obtain ⟨m', n', g1, g2⟩ := step i g.1 hi m n g.2
    exact ⟨m', n', ⟨by omega, g1⟩, g2⟩) (b - a) a (by omega) m n ⟨Nat.le_refl a, h⟩
  exact ⟨m', n', h1.2, h2⟩
/-! ===== numbers with a sign ===== -/
theorem lm_oN (a : Nat) : Int32.ofNat a = Int32.ofInt a := (lm_ofI a).symm
theorem lm_iA (a b : Int) : Int32.ofInt a + Int32.ofInt b = Int32.ofInt (a + b) := (Int32.ofInt_add a b).symm
theorem lm_iM (a b : Int) : Int32.ofInt a * Int32.ofInt b = Int32.ofInt (a * b) := (Int32.ofInt_mul a b).symm
theorem lm_iS (a b : Int) : Int32.ofInt a - Int32.ofInt b = Int32.ofInt (a - b) := (Int32.ofInt_sub a b).symm
theorem lm_iN (a : Int) : -Int32.ofInt a = Int32.ofInt (-a) := (Int32.ofInt_neg a).symm
theorem lm_iT0 {a : Int} (h1 : -2147483648 ≤ a) (h2 : a < 2147483648) : (Int32.ofInt a).toInt = a := by
  rw [Int32.toInt_ofInt]
  have e : Int32.size = 4294967296 := rfl
  exact Int.bmod_eq_of_le (by rw [e]; omega) (by rw [e]; omega)
theorem lm_iI (v : Int32) : Int32.ofInt v.toInt = v := Int32.ofInt_toInt v
theorem lm_iD {a b : Int} (h1 : -2147483648 < a) (h2 : a < 2147483648) (h3 : -2147483648 ≤ b) (h4 : b < 2147483648) : Int32.ofInt a / Int32.ofInt b = Int32.ofInt (a.tdiv b) := by
  have g1 := lm_iT0 (Int.le_of_lt h1) h2
  have g2 := lm_iT0 h3 h4
  have e : (Int32.ofInt a / Int32.ofInt b).toInt = a.tdiv b := by
    rw [Int32.toInt_div_of_ne_left, g1, g2]
    intro e
    have := congrArg Int32.toInt e
    rw [g1] at this
    have : (Int32.minValue).toInt = -2147483648 := rfl
    omega
  rw [← e, lm_iI]
theorem lm_iR {a b : Int} (h1 : -2147483648 < a) (h2 : a < 2147483648) (h3 : -2147483648 ≤ b) (h4 : b < 2147483648) : lm_rem (Int32.ofInt a) (Int32.ofInt b) = Int32.ofInt (a.tmod b) := by
  unfold lm_rem
  rw [lm_iD h1 h2 h3 h4, lm_iM, lm_iS, Int.tmod_def, Int.mul_comm b]
