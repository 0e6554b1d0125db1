/-! ===== sample ===== -/
def lm_sm1 (v : Nat) (s : Nat × (Nat → Nat)) : Nat × (Nat → Nat) := if s.1 < 256 ∧ v < 3329 then (s.1 + 1, fun i => if i = s.1 then v else s.2 i) else s
def lm_sms (a b c : Nat) (s : Nat × (Nat → Nat)) : Nat × (Nat → Nat) := if s.1 < 256 then lm_sm1 (b / 16 + 16 * c) (lm_sm1 (a + 256 * (b % 16)) s) else s
/-- t triples of the stream taken -/
def lm_sm (B : Nat → Nat) : Nat → Nat × (Nat → Nat)
  | 0 => (0, fun _ => 0)
  | t + 1 => lm_sms (B (3 * t)) (B (3 * t + 1)) (B (3 * t + 2)) (lm_sm B t)
theorem lm_sm1_le {v : Nat} {s : Nat × (Nat → Nat)} (h : s.1 ≤ 256) : (lm_sm1 v s).1 ≤ 256 := by
  unfold lm_sm1
  by_cases c : s.1 < 256 ∧ v < 3329
  · rw [if_pos c]; show s.1 + 1 ≤ 256; omega
  · rw [if_neg c]; exact h
theorem lm_sm_le {B : Nat → Nat} (t : Nat) : (lm_sm B t).1 ≤ 256 := by
  induction t with
  | zero => exact Nat.zero_le _
  | succ t ih =>
    show (lm_sms _ _ _ (lm_sm B t)).1 ≤ 256
    unfold lm_sms
    by_cases c : (lm_sm B t).1 < 256
    · rw [if_pos c]; exact lm_sm1_le (lm_sm1_le ih)
    · rw [if_neg c]; exact ih
theorem lm_sm_st {B : Nat → Nat} {t : Nat} (h : ¬ (lm_sm B t).1 < 256) : ∀ k, lm_sm B (t + k) = lm_sm B t := by
  intro k
  induction k with
  | zero => rfl
  | succ k ih =>
    show lm_sms _ _ _ (lm_sm B (t + k)) = _
    unfold lm_sms
    rw [ih, if_neg h]
theorem lm_sm_lt {B : Nat → Nat} (t : Nat) : ∀ i, i < (lm_sm B t).1 → (lm_sm B t).2 i < 3329 := by
  have key : ∀ v (s : Nat × (Nat → Nat)), (∀ i, i < s.1 → s.2 i < 3329) → ∀ i, i < (lm_sm1 v s).1 → (lm_sm1 v s).2 i < 3329 := by
    intro v s h i
    unfold lm_sm1
    by_cases c : s.1 < 256 ∧ v < 3329
    · rw [if_pos c]
      intro hi
      show (if i = s.1 then v else s.2 i) < 3329
      by_cases c2 : i = s.1
      · rw [if_pos c2]; exact c.2
      · rw [if_neg c2]
        have hi : i < s.1 + 1 := hi
        exact h i (by omega)
    · rw [if_neg c]; exact h i
  induction t with
  | zero => intro i hi; exact absurd hi (by show ¬ i < 0; omega)
  | succ t ih =>
    show ∀ i, i < (lm_sms _ _ _ (lm_sm B t)).1 → (lm_sms _ _ _ (lm_sm B t)).2 i < 3329
    unfold lm_sms
    by_cases c : (lm_sm B t).1 < 256
    · rw [if_pos c]; exact key _ _ (key _ _ ih)
    · rw [if_neg c]; exact ih
/-- array p holds what was taken -/
def lm_hl2 (m : lm_MI) (p : Nat) (s : Nat × (Nat → Nat)) : Prop := ∀ i, i < s.1 → m p i = Int32.ofNat (s.2 i)
theorem lm_hl2_st {m : lm_MI} {p v : Nat} {s : Nat × (Nat → Nat)} (h : lm_hl2 m p s) (h1 : s.1 < 256 ∧ v < 3329) : lm_hl2 (lm_u m p s.1 (Int32.ofNat v)) p (lm_sm1 v s) := by
  unfold lm_sm1
  rw [if_pos h1]
  intro i hi
  have hi : i < s.1 + 1 := hi
  show lm_u m p s.1 (Int32.ofNat v) p i = Int32.ofNat (if i = s.1 then v else s.2 i)
  by_cases c : i = s.1
  · rw [if_pos c, c, lm_u_eq]
  · rw [if_neg c, lm_u_ne (fun g => c g.2)]
    exact h i (by omega)
section LMSA
variable {xs : List Int32} {sc : lm_H} {C : lm_CX} {d p q v a : Nat} {m m0 : lm_MI} {n n0 : lm_ML} {x : lm_H × Nat × Nat} {G : Nat → Int32}
/-- the stream of bytes -/
def lm_B11 (C : lm_CX) (G : Nat → Int32) (t : Nat) : Nat := lm_yb (lm_Hm C 11 G 34 t)
theorem lm_r11 : lm_rate 11 = 168 := rfl
/-- one triple of the class, the row being filled -/
theorem lm_l285t {t : Nat} {B : Nat → Nat} (hp : lm_ar p = some (0, 256)) (hp3 : p ≠ 71) (ht : t < 280) (hs : (lm_sm B t).1 < 256) (hB : ∀ r, r < 3 → lm_yb (m 71 (t % 56 * 3 + r)) = B (3 * t + r)) (hv : lm_hl2 m p (lm_sm B t)) : ∃ m', (∀ q, q ≠ p → m' q = m q) ∧ lm_hl2 m' p (lm_sm B (t + 1)) ∧ ∀ R, lm_rn sc d lm_m285.2.2.2.2.1 (lm_reg lm_m285.2.2.2.2.2) (42, [(0, .ref 44), (1, .ref p), (2, .ref 5), (3, .int (Int32.ofNat (lm_sm B (t + 1)).1)), (4, .int (Int32.ofNat (t + 1)))], []) (lm_w m' n x) = some R → lm_rn sc d lm_m285.2.2.2.2.1 (lm_reg lm_m285.2.2.2.2.2) (84, [(0, .ref 44), (1, .ref p), (2, .ref 5), (3, .int (Int32.ofNat (lm_sm B t).1)), (4, .int (Int32.ofNat t)), (5, .int (Int32.ofNat (t % 56 * 3)))], []) (lm_w m n x) = some R := by
  have b0 := hB 0 (by decide)
  have b1 := hB 1 (by decide)
  have b2 := hB 2 (by decide)
  rw [Nat.add_zero, Nat.add_zero] at b0
  have l0 : B (3 * t) < 256 := by rw [← b0]; exact lm_yb_lt _
  have l1 : B (3 * t + 1) < 256 := by rw [← b1]; exact lm_yb_lt _
  have l2 : B (3 * t + 2) < 256 := by rw [← b2]; exact lm_yb_lt _
  have es : lm_sm B (t + 1) = lm_sm1 (B (3 * t + 1) / 16 + 16 * B (3 * t + 2)) (lm_sm1 (B (3 * t) + 256 * (B (3 * t + 1) % 16)) (lm_sm B t)) := by
    show lm_sms _ _ _ (lm_sm B t) = _
    unfold lm_sms
    rw [if_pos hs]
  generalize lm_sm B (t + 1) = s2 at *
  subst es
  generalize lm_sm B t = s at *
  have second : ∀ (s1 : Nat × (Nat → Nat)) (m1 : lm_MI), s1.1 ≤ 256 → (∀ q, q ≠ p → m1 q = m q) → lm_hl2 m1 p s1 → ∃ m', (∀ q, q ≠ p → m' q = m q) ∧ lm_hl2 m' p (lm_sm1 (B (3 * t + 1) / 16 + 16 * B (3 * t + 2)) s1) ∧ ∀ R, lm_rn sc d lm_m285.2.2.2.2.1 (lm_reg lm_m285.2.2.2.2.2) (42, [(0, .ref 44), (1, .ref p), (2, .ref 5), (3, .int (Int32.ofNat (lm_sm1 (B (3 * t + 1) / 16 + 16 * B (3 * t + 2)) s1).1)), (4, .int (Int32.ofNat (t + 1)))], []) (lm_w m' n x) = some R → lm_rn sc d lm_m285.2.2.2.2.1 (lm_reg lm_m285.2.2.2.2.2) (162, [(0, .ref 44), (1, .ref p), (2, .ref 5), (3, .int (Int32.ofNat s1.1)), (4, .int (Int32.ofNat t)), (8, .int (Int32.ofNat (B (3 * t + 1) / 16 + 16 * B (3 * t + 2))))], []) (lm_w m1 n x) = some R := by
    intro s1 m1 hs1 hf hh
    by_cases c1 : B (3 * t + 1) / 16 + 16 * B (3 * t + 2) < 3329
    · by_cases c2 : s1.1 < 256
      · refine ⟨lm_u m1 p s1.1 (Int32.ofNat (B (3 * t + 1) / 16 + 16 * B (3 * t + 2))), fun q hq => (lm_u_row hq).trans (hf q hq), lm_hl2_st hh ⟨c2, c1⟩, fun R K => lm_e285_162 ?_⟩
        unfold lm_q285_162
        rw [lm_K3329, lm_K256]
        refine lm_geF (by omega) (by omega) (by omega) (lm_geF (by omega) (by omega) (by omega) ?_)
        repeat (first
    | ((with_reducible apply lm_sI); exact rfl)
    | ((with_reducible apply lm_sR); exact rfl)
    | ((with_reducible apply lm_sS); exact rfl; exact rfl)
    | ((with_reducible apply lm_sL); exact rfl)
    | ((with_reducible apply lm_sP); exact rfl; exact rfl)
    | ((with_reducible apply lm_sPL); exact rfl; exact rfl)
    | ((with_reducible apply lm_sAA); exact rfl; exact rfl)
    | ((with_reducible apply lm_sA); (first | exact rfl | assumption); omega)
    | ((with_reducible apply lm_sJ); (first | exact rfl | assumption); omega)
    | ((with_reducible apply lm_sB); (first | exact rfl | assumption); omega)
    | ((with_reducible apply lm_wA); (first | exact rfl | assumption); omega)
    | ((with_reducible apply lm_wJ); (first | exact rfl | assumption); omega)
    | ((with_reducible apply lm_wB); (first | exact rfl | assumption); omega)
    | ((with_reducible apply lm_sAl); (first | exact rfl | assumption); omega)
    | ((with_reducible apply lm_iW); decide))
        refine lm_e285_185 ?_
        unfold lm_q285_185
        rw [lm_K1, lm_oo, lm_oo]
        rw [show (lm_sm1 (B (3 * t + 1) / 16 + 16 * B (3 * t + 2)) s1).1 = s1.1 + 1 by unfold lm_sm1; rw [if_pos ⟨c2, c1⟩]] at K
        exact K
      · have e1 : lm_sm1 (B (3 * t + 1) / 16 + 16 * B (3 * t + 2)) s1 = s1 := by
          unfold lm_sm1
          rw [if_neg (fun g => c2 g.1)]
        rw [e1]
        refine ⟨m1, hf, hh, fun R K => lm_e285_162 ?_⟩
        unfold lm_q285_162
        rw [lm_K3329, lm_K256]
        refine lm_geF (by omega) (by omega) (by omega) (lm_geT (by omega) (by omega) (by omega) (lm_e285_185 ?_))
        unfold lm_q285_185
        rw [lm_K1, lm_oo]
        exact K
    · have e1 : lm_sm1 (B (3 * t + 1) / 16 + 16 * B (3 * t + 2)) s1 = s1 := by
        unfold lm_sm1
        rw [if_neg (fun g => c1 g.2)]
      rw [e1]
      refine ⟨m1, hf, hh, fun R K => lm_e285_162 ?_⟩
      unfold lm_q285_162
      rw [lm_K3329]
      refine lm_geT (by omega) (by omega) (by omega) (lm_e285_185 ?_)
      unfold lm_q285_185
      rw [lm_K1, lm_oo]
      exact K
  by_cases c : B (3 * t) + 256 * (B (3 * t + 1) % 16) < 3329
  · have e1 : (lm_sm1 (B (3 * t) + 256 * (B (3 * t + 1) % 16)) s).1 = s.1 + 1 := by
      unfold lm_sm1
      rw [if_pos ⟨hs, c⟩]
    obtain ⟨m', f', h', k'⟩ := second (lm_sm1 (B (3 * t) + 256 * (B (3 * t + 1) % 16)) s) (lm_u m p s.1 (Int32.ofNat (B (3 * t) + 256 * (B (3 * t + 1) % 16)))) (by rw [e1]; omega) (fun q hq => lm_u_row hq) (lm_hl2_st hv ⟨hs, c⟩)
    refine ⟨m', f', h', fun R K => lm_e285_84 ?_⟩
    have k2 := k' R K
    rw [e1] at k2
    unfold lm_q285_84
    rw [lm_K1, lm_K2]
    simp only [lm_oo]
    repeat (first
    | ((with_reducible apply lm_sI); exact rfl)
    | ((with_reducible apply lm_sR); exact rfl)
    | ((with_reducible apply lm_sS); exact rfl; exact rfl)
    | ((with_reducible apply lm_sL); exact rfl)
    | ((with_reducible apply lm_sP); exact rfl; exact rfl)
    | ((with_reducible apply lm_sPL); exact rfl; exact rfl)
    | ((with_reducible apply lm_sAA); exact rfl; exact rfl)
    | ((with_reducible apply lm_sA); (first | exact rfl | assumption); omega)
    | ((with_reducible apply lm_sJ); (first | exact rfl | assumption); omega)
    | ((with_reducible apply lm_sB); (first | exact rfl | assumption); omega)
    | ((with_reducible apply lm_wA); (first | exact rfl | assumption); omega)
    | ((with_reducible apply lm_wJ); (first | exact rfl | assumption); omega)
    | ((with_reducible apply lm_wB); (first | exact rfl | assumption); omega)
    | ((with_reducible apply lm_sAl); (first | exact rfl | assumption); omega)
    | ((with_reducible apply lm_iW); decide))
    rw [lm_b8u, lm_b8u, lm_b8u, b0, b1, b2, lm_K16, lm_K256, lm_K3329, lm_orm (by omega) (by omega), lm_od (by omega) (by omega), lm_om, lm_om, lm_oo, lm_oo]
    refine lm_geF (by omega) (by omega) (by omega) ?_
    repeat (first
    | ((with_reducible apply lm_sI); exact rfl)
    | ((with_reducible apply lm_sR); exact rfl)
    | ((with_reducible apply lm_sS); exact rfl; exact rfl)
    | ((with_reducible apply lm_sL); exact rfl)
    | ((with_reducible apply lm_sP); exact rfl; exact rfl)
    | ((with_reducible apply lm_sPL); exact rfl; exact rfl)
    | ((with_reducible apply lm_sAA); exact rfl; exact rfl)
    | ((with_reducible apply lm_sA); (first | exact rfl | assumption); omega)
    | ((with_reducible apply lm_sJ); (first | exact rfl | assumption); omega)
    | ((with_reducible apply lm_sB); (first | exact rfl | assumption); omega)
    | ((with_reducible apply lm_wA); (first | exact rfl | assumption); omega)
    | ((with_reducible apply lm_wJ); (first | exact rfl | assumption); omega)
    | ((with_reducible apply lm_wB); (first | exact rfl | assumption); omega)
    | ((with_reducible apply lm_sAl); (first | exact rfl | assumption); omega)
    | ((with_reducible apply lm_iW); decide))
    exact k2
  · have e1 : lm_sm1 (B (3 * t) + 256 * (B (3 * t + 1) % 16)) s = s := by
      unfold lm_sm1
      rw [if_neg (fun g => c g.2)]
    rw [e1]
    obtain ⟨m', f', h', k'⟩ := second s m (by omega) (fun q hq => rfl) hv
    refine ⟨m', f', h', fun R K => lm_e285_84 ?_⟩
    unfold lm_q285_84
    rw [lm_K1, lm_K2]
    simp only [lm_oo]
    repeat (first
    | ((with_reducible apply lm_sI); exact rfl)
    | ((with_reducible apply lm_sR); exact rfl)
    | ((with_reducible apply lm_sS); exact rfl; exact rfl)
    | ((with_reducible apply lm_sL); exact rfl)
    | ((with_reducible apply lm_sP); exact rfl; exact rfl)
    | ((with_reducible apply lm_sPL); exact rfl; exact rfl)
    | ((with_reducible apply lm_sAA); exact rfl; exact rfl)
    | ((with_reducible apply lm_sA); (first | exact rfl | assumption); omega)
    | ((with_reducible apply lm_sJ); (first | exact rfl | assumption); omega)
    | ((with_reducible apply lm_sB); (first | exact rfl | assumption); omega)
    | ((with_reducible apply lm_wA); (first | exact rfl | assumption); omega)
    | ((with_reducible apply lm_wJ); (first | exact rfl | assumption); omega)
    | ((with_reducible apply lm_wB); (first | exact rfl | assumption); omega)
    | ((with_reducible apply lm_sAl); (first | exact rfl | assumption); omega)
    | ((with_reducible apply lm_iW); decide))
    rw [lm_b8u, lm_b8u, lm_b8u, b0, b1, b2, lm_K16, lm_K256, lm_K3329, lm_orm (by omega) (by omega), lm_od (by omega) (by omega), lm_om, lm_om, lm_oo, lm_oo]
    refine lm_geT (by omega) (by omega) (by omega) ?_
    exact k' R K
/-- what holds at the head of the loop -/
def lm_I285 (C : lm_CX) (G : Nat → Int32) (p : Nat) (m0 : lm_MI) (n0 : lm_ML) (t : Nat) (m : lm_MI) (n : lm_ML) : Prop := (∀ q, (q < 5 ∨ 22 < q) → q ≠ 71 → q ≠ p → m q = m0 q) ∧ lm_fN m0 n0 m n ∧ lm_hl2 m p (lm_sm (lm_B11 C G) t) ∧ lm_cQ m n C 11 G 34 ((t - 1) / 56) ∧ ∀ i, i < 168 → m 71 i = lm_Hm C 11 G 34 ((t - 1) / 56 * 168 + i)
theorem lm_l285s {t : Nat} (hC : lm_Cok xs C) (hp : lm_ar p = some (0, 256)) (hp2 : 22 < p) (hp3 : p ≠ 71) (ht : t < 280) (hs : (lm_sm (lm_B11 C G) t).1 < 256) (h : lm_I285 C G p m0 n0 t m n) : ∃ m' n', lm_I285 C G p m0 n0 (t + 1) m' n' ∧ ∀ R, lm_rn (lm_sc xs) (d + 4) lm_m285.2.2.2.2.1 (lm_reg lm_m285.2.2.2.2.2) (42, [(0, .ref 44), (1, .ref p), (2, .ref 5), (3, .int (Int32.ofNat (lm_sm (lm_B11 C G) (t + 1)).1)), (4, .int (Int32.ofNat (t + 1)))], []) (lm_w m' n' x) = some R → lm_rn (lm_sc xs) (d + 4) lm_m285.2.2.2.2.1 (lm_reg lm_m285.2.2.2.2.2) (42, [(0, .ref 44), (1, .ref p), (2, .ref 5), (3, .int (Int32.ofNat (lm_sm (lm_B11 C G) t).1)), (4, .int (Int32.ofNat t))], []) (lm_w m n x) = some R := by
  obtain ⟨g1, g2, g3, g4, g5⟩ := h
  have fin : ∀ (m1 : lm_MI) (n1 : lm_ML), (∀ q, (q < 5 ∨ 22 < q) → q ≠ 71 → q ≠ p → m1 q = m0 q) → lm_fN m0 n0 m1 n1 → lm_hl2 m1 p (lm_sm (lm_B11 C G) t) → lm_cQ m1 n1 C 11 G 34 (t / 56) → (∀ i, i < 168 → m1 71 i = lm_Hm C 11 G 34 (t / 56 * 168 + i)) → (∀ R, lm_rn (lm_sc xs) (d + 4) lm_m285.2.2.2.2.1 (lm_reg lm_m285.2.2.2.2.2) (84, [(0, .ref 44), (1, .ref p), (2, .ref 5), (3, .int (Int32.ofNat (lm_sm (lm_B11 C G) t).1)), (4, .int (Int32.ofNat t)), (5, .int (Int32.ofNat (t % 56 * 3)))], []) (lm_w m1 n1 x) = some R → lm_rn (lm_sc xs) (d + 4) lm_m285.2.2.2.2.1 (lm_reg lm_m285.2.2.2.2.2) (42, [(0, .ref 44), (1, .ref p), (2, .ref 5), (3, .int (Int32.ofNat (lm_sm (lm_B11 C G) t).1)), (4, .int (Int32.ofNat t))], []) (lm_w m n x) = some R) → ∃ m' n', lm_I285 C G p m0 n0 (t + 1) m' n' ∧ ∀ R, lm_rn (lm_sc xs) (d + 4) lm_m285.2.2.2.2.1 (lm_reg lm_m285.2.2.2.2.2) (42, [(0, .ref 44), (1, .ref p), (2, .ref 5), (3, .int (Int32.ofNat (lm_sm (lm_B11 C G) (t + 1)).1)), (4, .int (Int32.ofNat (t + 1)))], []) (lm_w m' n' x) = some R → lm_rn (lm_sc xs) (d + 4) lm_m285.2.2.2.2.1 (lm_reg lm_m285.2.2.2.2.2) (42, [(0, .ref 44), (1, .ref p), (2, .ref 5), (3, .int (Int32.ofNat (lm_sm (lm_B11 C G) t).1)), (4, .int (Int32.ofNat t))], []) (lm_w m n x) = some R := by
    intro m1 n1 a1 a2 a3 a4 a5 K1
    obtain ⟨m', f', h', k'⟩ := lm_l285t (sc := lm_sc xs) (d := d + 4) (n := n1) (x := x) (B := lm_B11 C G) hp hp3 ht hs (fun r hr => by
      unfold lm_B11
      rw [a5 _ (by omega), show t / 56 * 168 + (t % 56 * 3 + r) = 3 * t + r by omega]) a3
    refine ⟨m', n1, ⟨fun q h1 h2 h3 => (f' q h3).trans (a1 q h1 h2 h3), ?_, h', ?_, ?_⟩, fun R K => K1 R (k' R K)⟩
    · exact a2.tr (.of (f' 11 (by omega)) (f' 17 (by omega)))
    · rw [Nat.add_sub_cancel]
      exact ⟨by rw [f' 5 (by omega)]; exact a4.1, a4.2⟩
    · rw [Nat.add_sub_cancel, f' 71 (fun g => hp3 g.symm)]
      exact a5
  have hn := lm_sm_le (B := lm_B11 C G) t
  have eat : lm_rem (Int32.ofNat t) (Int32.ofInt 56) * Int32.ofInt 3 = Int32.ofNat (t % 56 * 3) := by
    rw [lm_K56, lm_K3, lm_orm (by omega) (by omega), lm_om]
  by_cases c : t % 56 = 0
  · by_cases c0 : t = 0
    · subst c0
      refine fin m n g1 g2 g3 g4 g5 fun R K => lm_e285_42 ?_
      unfold lm_q285_42
      rw [lm_K280, lm_K256]
      refine lm_geF (by omega) (by omega) (by omega) (lm_geF (by omega) (by omega) (by omega) ?_)
      repeat (first
    | ((with_reducible apply lm_sI); exact rfl)
    | ((with_reducible apply lm_sR); exact rfl)
    | ((with_reducible apply lm_sS); exact rfl; exact rfl)
    | ((with_reducible apply lm_sL); exact rfl)
    | ((with_reducible apply lm_sP); exact rfl; exact rfl)
    | ((with_reducible apply lm_sPL); exact rfl; exact rfl)
    | ((with_reducible apply lm_sAA); exact rfl; exact rfl)
    | ((with_reducible apply lm_sA); (first | exact rfl | assumption); omega)
    | ((with_reducible apply lm_sJ); (first | exact rfl | assumption); omega)
    | ((with_reducible apply lm_sB); (first | exact rfl | assumption); omega)
    | ((with_reducible apply lm_wA); (first | exact rfl | assumption); omega)
    | ((with_reducible apply lm_wJ); (first | exact rfl | assumption); omega)
    | ((with_reducible apply lm_wB); (first | exact rfl | assumption); omega)
    | ((with_reducible apply lm_sAl); (first | exact rfl | assumption); omega)
    | ((with_reducible apply lm_iW); decide))
      rw [eat]
      refine lm_iF (fun g => g rfl) (lm_iT (show Int32.ofNat 0 ≤ 0 by decide) ?_)
      exact K
    · obtain ⟨n', k, f, s⟩ := lm_cGo (xs := xs) (d := d + 1) (x := x) (q := 71) (v := 192) hC (by decide) (by decide) (by decide) rfl (by decide) (by decide) (by decide) g4
      rw [lm_r11] at k
      refine fin (lm_fil m 71 0 168 (fun i => lm_Hm C 11 G 34 (((t - 1) / 56 + 1) * 168 + i))) n' (fun q h1 h2 h3 => (lm_fl_row h2).trans (g1 q h1 h2 h3)) ?_ ?_ ?_ ?_ fun R K => lm_e285_42 ?_
      · exact g2.tr (f.N.tr (.of (lm_fl_row (by decide)) (lm_fl_row (by decide))))
      · intro i hi
        rw [lm_fl_row hp3]
        exact g3 i hi
      · rw [show t / 56 = (t - 1) / 56 + 1 by omega]
        exact ⟨by rw [lm_fl_row (by decide)]; exact s.1, s.2⟩
      · intro i hi
        rw [lm_fl_in (by omega), show t / 56 = (t - 1) / 56 + 1 by omega]
      · unfold lm_q285_42
        rw [lm_K280, lm_K256]
        refine lm_geF (by omega) (by omega) (by omega) (lm_geF (by omega) (by omega) (by omega) ?_)
        repeat (first
    | ((with_reducible apply lm_sI); exact rfl)
    | ((with_reducible apply lm_sR); exact rfl)
    | ((with_reducible apply lm_sS); exact rfl; exact rfl)
    | ((with_reducible apply lm_sL); exact rfl)
    | ((with_reducible apply lm_sP); exact rfl; exact rfl)
    | ((with_reducible apply lm_sPL); exact rfl; exact rfl)
    | ((with_reducible apply lm_sAA); exact rfl; exact rfl)
    | ((with_reducible apply lm_sA); (first | exact rfl | assumption); omega)
    | ((with_reducible apply lm_sJ); (first | exact rfl | assumption); omega)
    | ((with_reducible apply lm_sB); (first | exact rfl | assumption); omega)
    | ((with_reducible apply lm_wA); (first | exact rfl | assumption); omega)
    | ((with_reducible apply lm_wJ); (first | exact rfl | assumption); omega)
    | ((with_reducible apply lm_wB); (first | exact rfl | assumption); omega)
    | ((with_reducible apply lm_sAl); (first | exact rfl | assumption); omega)
    | ((with_reducible apply lm_iW); decide))
        rw [eat, c]
        refine lm_iF (fun g => g rfl) (lm_iF (fun g => c0 ?_) ?_)
        · have := (lm_le32 (a := t) (b := 0) (by omega) (by omega)).mp g
          omega
        repeat (first
    | ((with_reducible apply lm_sI); exact rfl)
    | ((with_reducible apply lm_sR); exact rfl)
    | ((with_reducible apply lm_sS); exact rfl; exact rfl)
    | ((with_reducible apply lm_sL); exact rfl)
    | ((with_reducible apply lm_sP); exact rfl; exact rfl)
    | ((with_reducible apply lm_sPL); exact rfl; exact rfl)
    | ((with_reducible apply lm_sAA); exact rfl; exact rfl)
    | ((with_reducible apply lm_sA); (first | exact rfl | assumption); omega)
    | ((with_reducible apply lm_sJ); (first | exact rfl | assumption); omega)
    | ((with_reducible apply lm_sB); (first | exact rfl | assumption); omega)
    | ((with_reducible apply lm_wA); (first | exact rfl | assumption); omega)
    | ((with_reducible apply lm_wJ); (first | exact rfl | assumption); omega)
    | ((with_reducible apply lm_wB); (first | exact rfl | assumption); omega)
    | ((with_reducible apply lm_sAl); (first | exact rfl | assumption); omega)
    | ((with_reducible apply lm_iW); decide))
        refine lm_cV k ?_
        rw [c] at K
        exact K
  · refine fin m n g1 g2 g3 (by rw [show t / 56 = (t - 1) / 56 by omega]; exact g4) (by rw [show t / 56 = (t - 1) / 56 by omega]; exact g5) fun R K => lm_e285_42 ?_
    unfold lm_q285_42
    rw [lm_K280, lm_K256]
    refine lm_geF (by omega) (by omega) (by omega) (lm_geF (by omega) (by omega) (by omega) ?_)
    repeat (first
    | ((with_reducible apply lm_sI); exact rfl)
    | ((with_reducible apply lm_sR); exact rfl)
    | ((with_reducible apply lm_sS); exact rfl; exact rfl)
    | ((with_reducible apply lm_sL); exact rfl)
    | ((with_reducible apply lm_sP); exact rfl; exact rfl)
    | ((with_reducible apply lm_sPL); exact rfl; exact rfl)
    | ((with_reducible apply lm_sAA); exact rfl; exact rfl)
    | ((with_reducible apply lm_sA); (first | exact rfl | assumption); omega)
    | ((with_reducible apply lm_sJ); (first | exact rfl | assumption); omega)
    | ((with_reducible apply lm_sB); (first | exact rfl | assumption); omega)
    | ((with_reducible apply lm_wA); (first | exact rfl | assumption); omega)
    | ((with_reducible apply lm_wJ); (first | exact rfl | assumption); omega)
    | ((with_reducible apply lm_wB); (first | exact rfl | assumption); omega)
    | ((with_reducible apply lm_sAl); (first | exact rfl | assumption); omega)
    | ((with_reducible apply lm_iW); decide))
    rw [eat]
    refine lm_iT (fun g => c ?_) ?_
    · have := (lm_eq32 (a := t % 56 * 3) (b := 0) (by omega) (by omega)).mp g
      omega
    exact K
theorem lm_l285 (hC : lm_Cok xs C) (hp : lm_ar p = some (0, 256)) (hp2 : 22 < p) (hp3 : p ≠ 71) : ∀ k t (m : lm_MI) (n : lm_ML), t + k = 280 → lm_I285 C G p m0 n0 t m n → ∃ m' n', (∀ q, (q < 5 ∨ 22 < q) → q ≠ 71 → q ≠ p → m' q = m0 q) ∧ lm_fN m0 n0 m' n' ∧ lm_hl2 m' p (lm_sm (lm_B11 C G) 280) ∧ ∀ R, lm_rn (lm_sc xs) (d + 4) lm_m285.2.2.2.2.1 (lm_reg lm_m285.2.2.2.2.2) (191, [(3, .int (Int32.ofNat (lm_sm (lm_B11 C G) 280).1))], []) (lm_w m' n' x) = some R → lm_rn (lm_sc xs) (d + 4) lm_m285.2.2.2.2.1 (lm_reg lm_m285.2.2.2.2.2) (42, [(0, .ref 44), (1, .ref p), (2, .ref 5), (3, .int (Int32.ofNat (lm_sm (lm_B11 C G) t).1)), (4, .int (Int32.ofNat t))], []) (lm_w m n x) = some R := by
  intro k
  induction k with
  | zero =>
    intro t m n ht h
    have e : t = 280 := ht
    subst e
    refine ⟨m, n, h.1, h.2.1, h.2.2.1, fun R K => lm_e285_42 ?_⟩
    unfold lm_q285_42
    rw [lm_K280]
    exact lm_geT (by omega) (by omega) (by omega) K
  | succ k ih =>
    intro t m n ht h
    have hn := lm_sm_le (B := lm_B11 C G) t
    by_cases c : (lm_sm (lm_B11 C G) t).1 < 256
    · obtain ⟨m1, n1, h1, k1⟩ := lm_l285s (x := x) (d := d) hC hp hp2 hp3 (by omega) c h
      obtain ⟨m2, n2, a1, a2, a3, a4⟩ := ih (t + 1) m1 n1 (by omega) h1
      exact ⟨m2, n2, a1, a2, a3, fun R K => k1 R (a4 R K)⟩
    · have e : lm_sm (lm_B11 C G) 280 = lm_sm (lm_B11 C G) t := by
        rw [← ht]
        exact lm_sm_st c _
      rw [e]
      refine ⟨m, n, h.1, h.2.1, h.2.2.1, fun R K => lm_e285_42 ?_⟩
      unfold lm_q285_42
      rw [lm_K280, lm_K256]
      exact lm_geF (by omega) (by omega) (by omega) (lm_geT (by omega) (by omega) (by omega) K)
/-- sample of the class -/
theorem lm_u285 (hC : lm_Cok xs C) (hr : ln_rt m) (hp : lm_ar p = some (0, 256)) (hp2 : 22 < p) (hp3 : p ≠ 71) (hG : ∀ t, t < 34 → lm_b8 (m 72 t) = G t) : ∃ m' n', (∀ q, (q < 5 ∨ 22 < q) → q ≠ 71 → q ≠ p → m' q = m q) ∧ lm_fN m n m' n' ∧ lm_hl2 m' p (lm_sm (lm_B11 C G) 280) ∧ ((lm_sm (lm_B11 C G) 280).1 = 256 → lm_cal (lm_sc xs) (d + 5) 285 [.ref 44, .ref p] (lm_w m n x) = some (.ok none, lm_w m' n' x)) ∧ ((lm_sm (lm_B11 C G) 280).1 ≠ 256 → lm_rom x → lm_cal (lm_sc xs) (d + 5) 285 [.ref 44, .ref p] (lm_w m n x) = some (.error (lm_xp x), lm_w m' n' (lm_xx 15 x))) := by
  obtain ⟨m1, n1, k1, s1, f1⟩ := lm_cSo (xs := xs) (d := d + 2) (x := x) (m := m) (n := n) (k := 11) (G := G) hC hr (by decide) (by decide)
  obtain ⟨m2, n2, k2, s2, f2⟩ := lm_cA (xs := xs) (d := d) (x := x) (k := 11) (q := 72) (v := 34) (a := 0) (l := 34) (L := 0) (G := G) hC (by decide) (by decide) (by decide) rfl (by decide) (by decide) (fun t ht => by
    rw [f1.1 72 (by decide), Nat.zero_add]
    exact hG t ht) s1
  rw [Nat.zero_add] at s2
  obtain ⟨m3, n3, k3, f3, q3⟩ := lm_cFq (xs := xs) (d := d) (x := x) (q := 71) (v := 192) hC (by decide) (by decide) (by decide) rfl (by decide) (by decide) s2
  rw [lm_r11] at k3
  have fm : ∀ q, (q < 5 ∨ 22 < q) → m3 q = m q := fun q h1 => by rw [f3.1 q h1, f2.1 q h1, f1.1 q h1]
  obtain ⟨m4, n4, a1, a2, a3, a4⟩ := lm_l285 (xs := xs) (d := d) (x := x) (m0 := m) (n0 := n) (G := G) hC hp hp2 hp3 280 0 (lm_fil m3 71 0 168 (fun i => lm_Hm C 11 G 34 i)) n3 (by omega) ⟨fun q h1 h2 h3 => (lm_fl_row h2).trans (fm q h1), f1.N.tr (f2.N.tr (f3.N.tr (.of (lm_fl_row (by decide)) (lm_fl_row (by decide))))), fun i hi => absurd hi (by show ¬ i < 0; omega), ⟨by rw [lm_fl_row (by decide)]; exact q3.1, q3.2⟩, fun i hi => by rw [lm_fl_in (by omega), show (0 - 1) / 56 * 168 + i = i by omega]⟩
  have start : ∀ R, lm_rn (lm_sc xs) (d + 4) lm_m285.2.2.2.2.1 (lm_reg lm_m285.2.2.2.2.2) (191, [(3, .int (Int32.ofNat (lm_sm (lm_B11 C G) 280).1))], []) (lm_w m4 n4 x) = some R → lm_cal (lm_sc xs) (d + 5) 285 [.ref 44, .ref p] (lm_w m n x) = some R := by
    intro R K
    refine lm_cal_of (Y := lm_m285) rfl rfl (lm_e285_0 ?_)
    unfold lm_q285_0
    rw [lm_K11, lm_K0, lm_K34, lm_K168]
    repeat (first
    | ((with_reducible apply lm_sI); exact rfl)
    | ((with_reducible apply lm_sR); exact rfl)
    | ((with_reducible apply lm_sS); exact rfl; exact rfl)
    | ((with_reducible apply lm_sL); exact rfl)
    | ((with_reducible apply lm_sP); exact rfl; exact rfl)
    | ((with_reducible apply lm_sPL); exact rfl; exact rfl)
    | ((with_reducible apply lm_sAA); exact rfl; exact rfl)
    | ((with_reducible apply lm_sA); (first | exact rfl | assumption); omega)
    | ((with_reducible apply lm_sJ); (first | exact rfl | assumption); omega)
    | ((with_reducible apply lm_sB); (first | exact rfl | assumption); omega)
    | ((with_reducible apply lm_wA); (first | exact rfl | assumption); omega)
    | ((with_reducible apply lm_wJ); (first | exact rfl | assumption); omega)
    | ((with_reducible apply lm_wB); (first | exact rfl | assumption); omega)
    | ((with_reducible apply lm_sAl); (first | exact rfl | assumption); omega)
    | ((with_reducible apply lm_iW); decide))
    refine lm_cV k1 ?_
    repeat (first
    | ((with_reducible apply lm_sI); exact rfl)
    | ((with_reducible apply lm_sR); exact rfl)
    | ((with_reducible apply lm_sS); exact rfl; exact rfl)
    | ((with_reducible apply lm_sL); exact rfl)
    | ((with_reducible apply lm_sP); exact rfl; exact rfl)
    | ((with_reducible apply lm_sPL); exact rfl; exact rfl)
    | ((with_reducible apply lm_sAA); exact rfl; exact rfl)
    | ((with_reducible apply lm_sA); (first | exact rfl | assumption); omega)
    | ((with_reducible apply lm_sJ); (first | exact rfl | assumption); omega)
    | ((with_reducible apply lm_sB); (first | exact rfl | assumption); omega)
    | ((with_reducible apply lm_wA); (first | exact rfl | assumption); omega)
    | ((with_reducible apply lm_wJ); (first | exact rfl | assumption); omega)
    | ((with_reducible apply lm_wB); (first | exact rfl | assumption); omega)
    | ((with_reducible apply lm_sAl); (first | exact rfl | assumption); omega)
    | ((with_reducible apply lm_iW); decide))
    refine lm_cV k2 ?_
    repeat (first
    | ((with_reducible apply lm_sI); exact rfl)
    | ((with_reducible apply lm_sR); exact rfl)
    | ((with_reducible apply lm_sS); exact rfl; exact rfl)
    | ((with_reducible apply lm_sL); exact rfl)
    | ((with_reducible apply lm_sP); exact rfl; exact rfl)
    | ((with_reducible apply lm_sPL); exact rfl; exact rfl)
    | ((with_reducible apply lm_sAA); exact rfl; exact rfl)
    | ((with_reducible apply lm_sA); (first | exact rfl | assumption); omega)
    | ((with_reducible apply lm_sJ); (first | exact rfl | assumption); omega)
    | ((with_reducible apply lm_sB); (first | exact rfl | assumption); omega)
    | ((with_reducible apply lm_wA); (first | exact rfl | assumption); omega)
    | ((with_reducible apply lm_wJ); (first | exact rfl | assumption); omega)
    | ((with_reducible apply lm_wB); (first | exact rfl | assumption); omega)
    | ((with_reducible apply lm_sAl); (first | exact rfl | assumption); omega)
    | ((with_reducible apply lm_iW); decide))
    refine lm_cV k3 ?_
    exact a4 R K
  have hn := lm_sm_le (B := lm_B11 C G) 280
  refine ⟨m4, n4, a1, a2, a3, fun h => start _ (lm_e285_191 ?_), fun h hx => ?_⟩
  · unfold lm_q285_191
    rw [h, lm_K256]
    exact lm_geT (by decide) (by decide) (by decide) rfl
  · have key : lm_rn (lm_sc xs) (d + 4) lm_m285.2.2.2.2.1 (lm_reg lm_m285.2.2.2.2.2) (191, [(3, .int (Int32.ofNat (lm_sm (lm_B11 C G) 280).1))], []) (lm_w m4 n4 x) = some (.error (lm_xp x), lm_w m4 n4 (lm_xx 15 x)) := by
      refine lm_e285_191 ?_
      unfold lm_q285_191
      rw [lm_K256]
      exact lm_geF (by omega) (by omega) (by omega) (lm_wT hx)
    exact start _ key
end LMSA
