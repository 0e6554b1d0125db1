/-! ===== the transform by steps is the sum ===== -/
/-- the roots of the tree: node k's polynomial is X^.. - lm_gm k -/
def lm_gm (z : Nat → Int) (k : Nat) : Int := if k % 2 = 0 then z (k / 2) else -z (k / 2)
theorem lm_gm_0 {z : Nat → Int} (k : Nat) : lm_gm z (2 * k) = z k := by
  unfold lm_gm
  rw [if_pos (by omega), show 2 * k / 2 = k by omega]
theorem lm_gm_1 {z : Nat → Int} (k : Nat) : lm_gm z (2 * k + 1) = -z k := by
  unfold lm_gm
  rw [if_neg (by omega), show (2 * k + 1) / 2 = k by omega]
/-- N blocks of L numbers: in block b the remainder by X^L - lm_gm (N + b) -/
def lm_NF (q : Int) (z F : Nat → Int) (N L : Nat) (G : Nat → Int) : Prop := ∀ b r, b < N → r < L → ln_cg q (G (b * L + r)) (ln_sg N (fun t => F (r + t * L) * lm_gm z (N + b) ^ t))
section LMNF
variable {q : Int} {z F G G' : Nat → Int} {N P : Nat}
theorem lm_NF_0 {L : Nat} : lm_NF q z F 1 L F := by
  intro b r hb hr
  have e : b = 0 := by omega
  subst e
  refine ln_cg.of ?_
  show F (0 * L + r) = 0 + F (r + 0 * L) * lm_gm z (1 + 0) ^ 0
  rw [Int.pow_zero, Int.mul_one, Int.zero_add, Nat.zero_mul, Nat.zero_add, Nat.add_zero]
theorem lm_NF_half {r : Nat} {w g a c : Int} (hw : ln_cg q (w * w) g) (ha : ln_cg q a (ln_sg N (fun t => F (r + t * (2 * P)) * g ^ t))) (hc : ln_cg q c (ln_sg N (fun t => F (r + P + t * (2 * P)) * g ^ t))) : ln_cg q (a + w * c) (ln_sg (2 * N) (fun t => F (r + t * P) * w ^ t)) := by
  rw [lm_sg_2]
  refine (ha.tr (lm_sg_cg fun t _ => ?_)).ad ((ln_cg.rf.mu hc).tr ?_)
  · rw [show r + 2 * t * P = r + t * (2 * P) by rw [Nat.mul_comm 2 t, Nat.mul_assoc], Int.pow_mul, show w ^ 2 = w * w by rw [Int.pow_succ, Int.pow_succ, Int.pow_zero, Int.one_mul]]
    exact ln_cg.rf.mu (hw.pw t).sy
  · rw [Int.mul_comm, ← lm_sg_mul]
    refine lm_sg_cg fun t _ => ?_
    rw [show r + (2 * t + 1) * P = r + P + t * (2 * P) by rw [Nat.add_mul, Nat.one_mul, Nat.mul_comm 2 t, Nat.mul_assoc]; omega, Int.pow_succ, Int.pow_mul, show w ^ 2 = w * w by rw [Int.pow_succ, Int.pow_succ, Int.pow_zero, Int.one_mul], Int.mul_assoc]
    exact ln_cg.rf.mu ((hw.pw t).sy.mu ln_cg.rf)
theorem lm_NF_step (h : lm_NF q z F N (2 * P) G) (hz : ∀ b, b < N → ln_cg q (z (N + b) * z (N + b)) (lm_gm z (N + b))) (hl : ∀ b r, b < N → r < P → ln_cg q (G' (b * (2 * P) + r)) (G (b * (2 * P) + r) + z (N + b) * G (b * (2 * P) + (r + P))) ∧ ln_cg q (G' (b * (2 * P) + (r + P))) (G (b * (2 * P) + r) - z (N + b) * G (b * (2 * P) + (r + P)))) : lm_NF q z F (2 * N) P G' := by
  intro c r hc hr
  have hb : c / 2 < N := by omega
  have h1 := h (c / 2) r hb (by omega)
  have h2 := h (c / 2) (r + P) hb (by omega)
  obtain ⟨l1, l2⟩ := hl (c / 2) r hb hr
  have hw := hz (c / 2) hb
  rcases (by omega : c % 2 = 0 ∨ c % 2 = 1) with e | e
  · have ec : c * P + r = c / 2 * (2 * P) + r := by
      rw [← Nat.mul_assoc, show c / 2 * 2 = c by omega]
    rw [ec, show 2 * N + c = 2 * (N + c / 2) by omega, lm_gm_0]
    exact l1.tr (lm_NF_half hw h1 h2)
  · have ec : c * P + r = c / 2 * (2 * P) + (r + P) := by
      rw [← Nat.mul_assoc, show c * P = (c / 2 * 2 + 1) * P by rw [show c / 2 * 2 + 1 = c by omega], Nat.add_mul, Nat.one_mul]
      omega
    rw [ec, show 2 * N + c = 2 * (N + c / 2) + 1 by omega, lm_gm_1]
    refine l2.tr ?_
    rw [Int.sub_eq_add_neg, ← Int.neg_mul]
    refine lm_NF_half ?_ h1 h2
    rw [Int.neg_mul_neg]
    exact hw
end LMNF
/-- the way back: N blocks of M leaves of E numbers each -/
def lm_NI (q : Int) (D A : Nat → Int) (E M N : Nat) (G : Nat → Int) : Prop := ∀ b u r, b < N → u < M → r < E → ln_cg q (G (b * (M * E) + (u * E + r))) (ln_sg M (fun c => A ((b * M + c) * E + r) * D (b * M + c) ^ u))
section LMNI
variable {q : Int} {D A G G' : Nat → Int} {E M N : Nat}
theorem lm_NI_0 {N : Nat} : lm_NI q D A E 1 N A := by
  intro b u r hb hu hr
  have e : u = 0 := by omega
  subst e
  refine ln_cg.of ?_
  show A (b * (1 * E) + (0 * E + r)) = 0 + A ((b * 1 + 0) * E + r) * D (b * 1 + 0) ^ 0
  rw [Int.pow_zero, Int.mul_one, Int.zero_add, Nat.zero_mul, Nat.zero_add, Nat.one_mul, Nat.mul_one, Nat.add_zero]
theorem lm_NI_step {z : Nat → Int} (h : lm_NI q D A E M (2 * N) G) (hz : ∀ b c, b < N → c < M → ln_cg q (D (2 * b * M + c) ^ M) (-z b) ∧ ln_cg q (D ((2 * b + 1) * M + c) ^ M) (z b)) (hl : ∀ b u r, b < N → u < M → r < E → ln_cg q (G' (b * (2 * M * E) + (u * E + r))) (G (b * (2 * M * E) + (u * E + r)) + G (b * (2 * M * E) + (M * E + (u * E + r)))) ∧ ln_cg q (G' (b * (2 * M * E) + (M * E + (u * E + r)))) (z b * (G (b * (2 * M * E) + (M * E + (u * E + r))) - G (b * (2 * M * E) + (u * E + r))))) : lm_NI q D A E (2 * M) N G' := by
  intro b u r hb hu hr
  have key : ∀ v, v < M → ln_cg q (G (b * (2 * M * E) + (v * E + r))) (ln_sg M (fun c => A ((2 * b * M + c) * E + r) * D (2 * b * M + c) ^ v)) ∧ ln_cg q (G (b * (2 * M * E) + (M * E + (v * E + r)))) (ln_sg M (fun c => A (((2 * b + 1) * M + c) * E + r) * D ((2 * b + 1) * M + c) ^ v)) := by
    intro v hv
    have h1 := h (2 * b) v r (by omega) hv hr
    have h2 := h (2 * b + 1) v r (by omega) hv hr
    rw [show 2 * b * (M * E) = b * (2 * M * E) by rw [Nat.mul_comm 2 b, Nat.mul_assoc, Nat.mul_assoc]] at h1
    rw [show (2 * b + 1) * (M * E) + (v * E + r) = b * (2 * M * E) + (M * E + (v * E + r)) by rw [Nat.add_mul, Nat.one_mul, Nat.mul_comm 2 b, Nat.mul_assoc, ← Nat.mul_assoc 2]; omega] at h2
    exact ⟨h1, h2⟩
  rw [show 2 * M = M + M by omega, lm_sg_add]
  have e1 : ∀ c, b * (M + M) + c = 2 * b * M + c := fun c => by rw [Nat.mul_add, Nat.mul_assoc, Nat.two_mul]
  have e2 : ∀ c, b * (M + M) + (M + c) = (2 * b + 1) * M + c := fun c => by rw [Nat.add_mul, Nat.one_mul, Nat.mul_add, Nat.mul_assoc, Nat.two_mul]; omega
  rw [show (fun c => A ((b * (M + M) + c) * E + r) * D (b * (M + M) + c) ^ u) = fun c => A ((2 * b * M + c) * E + r) * D (2 * b * M + c) ^ u from funext fun c => by rw [e1], show (fun i => A ((b * (M + M) + (M + i)) * E + r) * D (b * (M + M) + (M + i)) ^ u) = fun c => A (((2 * b + 1) * M + c) * E + r) * D ((2 * b + 1) * M + c) ^ u from funext fun c => by rw [e2]]
  by_cases c : u < M
  · obtain ⟨k1, k2⟩ := key u c
    have l := (hl b u r hb c hr).1
    rw [show M + M = 2 * M by omega]
    exact l.tr (k1.ad k2)
  · obtain ⟨k1, k2⟩ := key (u - M) (by omega)
    have l := (hl b (u - M) r hb (by omega) hr).2
    have eu : M * E + ((u - M) * E + r) = u * E + r := by
      rw [← Nat.add_assoc, ← Nat.add_mul, show M + (u - M) = u by omega]
    rw [eu] at l k2
    rw [show M + M = 2 * M by omega]
    refine l.tr ((ln_cg.rf.mu (k2.sb k1)).tr ?_)
    rw [Int.mul_sub, Int.mul_comm, Int.mul_comm (z b), ← lm_sg_mul, ← lm_sg_mul, Int.add_comm, Int.sub_eq_add_neg]
    refine ln_cg.ad (lm_sg_cg fun i hi => ?_) ?_
    · have := (hz b i hb hi).2
      rw [show u = u - M + M by omega, Int.pow_add, Int.mul_assoc, show u - M + M - M = u - M by omega]
      exact ln_cg.rf.mu (ln_cg.rf.mu this.sy)
    · rw [← Int.mul_neg_one, ← lm_sg_mul]
      refine lm_sg_cg fun i hi => ?_
      have := (hz b i hb hi).1
      rw [show D (2 * b * M + i) ^ u = D (2 * b * M + i) ^ (u - M) * D (2 * b * M + i) ^ M by rw [← Int.pow_add, show u - M + M = u by omega], Int.mul_assoc, Int.mul_assoc, Int.mul_neg_one, ← Int.mul_assoc]
      rw [Int.mul_assoc]
      exact ln_cg.rf.mu (ln_cg.rf.mu this.sy)
end LMNI
