/-! ===== Dsa: sampleSmall of the class ===== -/
def lm_sl (e : Nat) : Nat := if e = 2 then 15 else 9
def lm_sv' (e z : Nat) : Int := if e = 2 then 2 - ((z % 5 : Nat) : Int) else 4 - (z : Int)
def lm_s41 (e z : Nat) (s : Nat × (Nat → Int)) : Nat × (Nat → Int) := if s.1 < 256 ∧ z < lm_sl e then (s.1 + 1, fun i => if i = s.1 then lm_sv' e z else s.2 i) else s
/-- t half bytes of the stream taken -/
def lm_s4 (e : Nat) (B : Nat → Nat) : Nat → Nat × (Nat → Int)
  | 0 => (0, fun _ => 0)
  | t + 1 => lm_s41 e (B (t / 2) / 2 ^ (4 * (t % 2)) % 16) (lm_s4 e B t)
theorem lm_s4_le {e : Nat} {B : Nat → Nat} (t : Nat) : (lm_s4 e B t).1 ≤ 256 := by
  induction t with
  | zero => exact Nat.zero_le _
  | succ t ih =>
    show (lm_s41 e _ (lm_s4 e B t)).1 ≤ 256
    unfold lm_s41
    by_cases c : (lm_s4 e B t).1 < 256 ∧ B (t / 2) / 2 ^ (4 * (t % 2)) % 16 < lm_sl e
    · rw [if_pos c]; show (lm_s4 e B t).1 + 1 ≤ 256; omega
    · rw [if_neg c]; exact ih
theorem lm_s4_st {e : Nat} {B : Nat → Nat} {t : Nat} (h : ¬ (lm_s4 e B t).1 < 256) : ∀ k, lm_s4 e B (t + k) = lm_s4 e B t := by
  intro k
  induction k with
  | zero => rfl
  | succ k ih =>
    show lm_s41 e _ (lm_s4 e B (t + k)) = _
    unfold lm_s41
    rw [ih, if_neg (fun g => h g.1)]
theorem lm_sv_b {e z : Nat} (he : e = 2 ∨ e = 4) (h : z < lm_sl e) : -(e : Int) ≤ lm_sv' e z ∧ lm_sv' e z ≤ e := by
  unfold lm_sl at h
  unfold lm_sv'
  rcases he with e0 | e0
  · rw [if_pos e0]
    omega
  · rw [if_neg (by omega)] at h
    rw [if_neg (by omega)]
    omega
theorem lm_s4_b {e : Nat} {B : Nat → Nat} (he : e = 2 ∨ e = 4) (t : Nat) : ∀ i, i < (lm_s4 e B t).1 → -(e : Int) ≤ (lm_s4 e B t).2 i ∧ (lm_s4 e B t).2 i ≤ e := by
  induction t with
  | zero => intro i hi; exact absurd hi (by show ¬ i < 0; omega)
  | succ t ih =>
    show ∀ i, i < (lm_s41 e _ (lm_s4 e B t)).1 → -(e : Int) ≤ (lm_s41 e _ (lm_s4 e B t)).2 i ∧ (lm_s41 e _ (lm_s4 e B t)).2 i ≤ e
    intro i
    unfold lm_s41
    by_cases c : (lm_s4 e B t).1 < 256 ∧ B (t / 2) / 2 ^ (4 * (t % 2)) % 16 < lm_sl e
    · rw [if_pos c]
      intro hi
      show -(e : Int) ≤ (if i = (lm_s4 e B t).1 then _ else (lm_s4 e B t).2 i) ∧ (if i = (lm_s4 e B t).1 then _ else (lm_s4 e B t).2 i) ≤ (e : Int)
      by_cases c2 : i = (lm_s4 e B t).1
      · rw [if_pos c2]; exact lm_sv_b he c.2
      · rw [if_neg c2]
        have hi : i < (lm_s4 e B t).1 + 1 := hi
        exact ih i (by omega)
    · rw [if_neg c]; exact ih i
def lm_hl3 (m : lm_MI) (p : Nat) (s : Nat × (Nat → Int)) : Prop := ∀ i, i < s.1 → m p i = Int32.ofInt (s.2 i)
theorem lm_hl3_st {m : lm_MI} {p e z : Nat} {s : Nat × (Nat → Int)} (h : lm_hl3 m p s) (h1 : s.1 < 256 ∧ z < lm_sl e) : lm_hl3 (lm_u m p s.1 (Int32.ofInt (lm_sv' e z))) p (lm_s41 e z s) := by
  unfold lm_s41
  rw [if_pos h1]
  intro i hi
  have hi : i < s.1 + 1 := hi
  show lm_u m p s.1 (Int32.ofInt (lm_sv' e z)) p i = Int32.ofInt (if i = s.1 then lm_sv' e z else s.2 i)
  by_cases c : i = s.1
  · rw [if_pos c, c, lm_u_eq]
  · rw [if_neg c, lm_u_ne (fun g => c g.2)]
    exact h i (by omega)
theorem lm_15b : ∀ j, j < 32 → (15#32).getLsbD j = decide (j < 4) := by decide
theorem lm_nib (v : Int32) {k : Nat} (hk : k ≤ 4) : (lm_b8 v >>> (Int32.ofNat k &&& 31)) &&& Int32.ofInt 15 = Int32.ofNat (lm_yb v / 2 ^ k % 16) := by
  apply Int32.toBitVec_inj.mp
  have e : ((lm_b8 v >>> (Int32.ofNat k &&& 31)) &&& Int32.ofInt 15).toBitVec = (lm_b8 v >>> (Int32.ofNat k &&& 31)).toBitVec &&& 15#32 := rfl
  rw [e, lm_tsr _ (by omega)]
  apply BitVec.eq_of_getLsbD_eq
  intro j hj
  have hl := Nat.mod_lt (lm_yb v / 2 ^ k) (show 0 < 16 by decide)
  rw [BitVec.getLsbD_and, lm_15b j hj, lm_nb (by omega), show (16 : Nat) = 2 ^ 4 from rfl, Nat.testBit_mod_two_pow, Nat.testBit_div_two_pow]
  by_cases c : j < 4
  · rw [decide_eq_true c, Bool.and_true, Bool.true_and, BitVec.getLsbD_sshiftRight, if_pos (by omega), lm_yb_tb v (by omega), Nat.add_comm j k, decide_eq_false (by omega)]
    rfl
  · rw [decide_eq_false c, Bool.and_false, Bool.false_and]
theorem lm_eta {xs : List Int32} {s : Nat} {σ : lm_S} {f : Int32 → lm_M lm_R} {r : Option (Except Nat lm_R × lm_S)} (hs : s ≤ 2) (k : f (Int32.ofNat (lm_de s)) σ = r) : lm_bind (lm_iald (lm_sc xs) (lm_B + 9) (Int32.ofNat s)) f σ = r := by
  match s, hs with
  | 0, _ => exact lm_sSt rfl rfl rfl k
  | 1, _ => exact lm_sSt rfl rfl rfl k
  | 2, _ => exact lm_sSt rfl rfl rfl k
theorem lm_de_2 {s : Nat} (hs : s ≤ 2) : lm_de s = 2 ∨ lm_de s = 4 := by
  match s, hs with
  | 0, _ => exact Or.inl rfl
  | 1, _ => exact Or.inr rfl
  | 2, _ => exact Or.inl rfl
/-- the 66 bytes of the message -/
def ln_g6 (S : Nat → Int32) (a : Nat) (w : Int32) (i : Nat) : Int32 := if i < 64 then lm_b8 (S (a + i)) else if i = 64 then lm_b8 w else lm_b8 (w >>> ((Int32.ofInt 8) &&& 31))
def lm_B12 (C : lm_CX) (G : Nat → Int32) (t : Nat) : Nat := lm_yb (lm_Hm C 12 G 66 t)
theorem lm_r12 : lm_rate 12 = 136 := rfl
section LMSE
variable {xs : List Int32} {sc : lm_H} {C : lm_CX} {d p q v a s : Nat} {m m0 : lm_MI} {n n0 : lm_ML} {x : lm_H × Nat × Nat} {G : Nat → Int32}
theorem lm_l233t {t : Nat} {B : Nat → Nat} (hs : s ≤ 2) (h17 : m 76 17 = Int32.ofNat s) (hp : lm_ar p = some (0, 256)) (hp3 : p ≠ 188) (ht : t < 962) (hst : (lm_s4 (lm_de s) B t).1 < 256) (hB : lm_yb (m 188 (t / 2 % 136)) = B (t / 2)) (hv : lm_hl3 m p (lm_s4 (lm_de s) B t)) : ∃ m', (∀ q, q ≠ p → m' q = m q) ∧ lm_hl3 m' p (lm_s4 (lm_de s) B (t + 1)) ∧ ∀ R, lm_rn (lm_sc xs) d lm_m233.2.2.2.2.1 (lm_reg lm_m233.2.2.2.2.2) (80, [(0, .ref 76), (1, .ref p), (3, .ref 5), (4, .int (Int32.ofNat (lm_s4 (lm_de s) B (t + 1)).1)), (5, .int (Int32.ofNat (t + 1)))], []) (lm_w m' n x) = some R → lm_rn (lm_sc xs) d lm_m233.2.2.2.2.1 (lm_reg lm_m233.2.2.2.2.2) (118, [(0, .ref 76), (1, .ref p), (3, .ref 5), (4, .int (Int32.ofNat (lm_s4 (lm_de s) B t).1)), (5, .int (Int32.ofNat t))], []) (lm_w m n x) = some R := by
  have es : lm_s4 (lm_de s) B (t + 1) = lm_s41 (lm_de s) (B (t / 2) / 2 ^ (4 * (t % 2)) % 16) (lm_s4 (lm_de s) B t) := rfl
  have hz := Nat.mod_lt (B (t / 2) / 2 ^ (4 * (t % 2))) (show 0 < 16 by decide)
  have hd := lm_de_2 hs
  generalize lm_s4 (lm_de s) B (t + 1) = s2 at *
  subst es
  generalize lm_s4 (lm_de s) B t = st at *
  have eN : (lm_b8 (m 188 (t / 2 % 136)) >>> ((Int32.ofNat (4 * (t % 2))) &&& 31)) &&& (Int32.ofInt 15) = Int32.ofNat (B (t / 2) / 2 ^ (4 * (t % 2)) % 16) := by
    rw [lm_nib _ (by omega), hB]
  generalize B (t / 2) / 2 ^ (4 * (t % 2)) % 16 = z at *
  have head : ∀ R, lm_rn (lm_sc xs) d lm_m233.2.2.2.2.1 (lm_reg lm_m233.2.2.2.2.2) (164, [(0, .ref 76), (1, .ref p), (3, .ref 5), (4, .int (Int32.ofNat st.1)), (5, .int (Int32.ofNat t)), (6, .int (Int32.ofNat z))], [.int (Int32.ofNat (lm_sl (lm_de s))), .int (Int32.ofNat z)]) (lm_w m n x) = some R → lm_rn (lm_sc xs) d lm_m233.2.2.2.2.1 (lm_reg lm_m233.2.2.2.2.2) (118, [(0, .ref 76), (1, .ref p), (3, .ref 5), (4, .int (Int32.ofNat st.1)), (5, .int (Int32.ofNat t))], []) (lm_w m n x) = some R := by
    intro R K
    refine lm_e233_118 ?_
    unfold lm_q233_118
    rw [lm_K2, lm_K136, lm_od (by omega) (by omega), lm_orm (by omega) (by omega), lm_orm (by omega) (by omega), lm_K4, lm_om]
    repeat (first
    | ((with_reducible apply lm_sI); exact rfl)
    | ((with_reducible apply lm_sR); exact rfl)
    | ((with_reducible apply lm_sS); exact rfl; exact rfl)
    | ((with_reducible apply lm_sL); exact rfl)
    | ((with_reducible apply lm_sP); exact rfl; exact rfl)
    | ((with_reducible apply lm_sPL); exact rfl; exact rfl)
    | ((with_reducible apply lm_sAA); exact rfl; exact rfl)
    | ((with_reducible apply lm_sA); (first | exact rfl | assumption); omega)
    | ((with_reducible apply lm_sJ); (first | exact rfl | assumption); omega)
    | ((with_reducible apply lm_sB); (first | exact rfl | assumption); omega)
    | ((with_reducible apply lm_wA); (first | exact rfl | assumption); omega)
    | ((with_reducible apply lm_wJ); (first | exact rfl | assumption); omega)
    | ((with_reducible apply lm_wB); (first | exact rfl | assumption); omega)
    | ((with_reducible apply lm_sAl); (first | exact rfl | assumption); omega)
    | ((with_reducible apply lm_iW); decide))
    simp only [Nat.reduceDiv, Nat.reduceMod]
    rw [h17]
    refine lm_eta hs ?_
    rw [eN]
    rcases hd with e0 | e0
    · rw [e0] at K ⊢
      exact lm_neF (by decide) (by decide) (fun g => g rfl) K
    · rw [e0] at K ⊢
      exact lm_neT (by decide) (by decide) (by decide) K
  by_cases c : z < lm_sl (lm_de s)
  · have e1 : (lm_s41 (lm_de s) z st).1 = st.1 + 1 := by
      unfold lm_s41
      rw [if_pos ⟨hst, c⟩]
    have hsl : lm_sl (lm_de s) ≤ 15 := by
      unfold lm_sl
      split <;> omega
    refine ⟨lm_u m p st.1 (Int32.ofInt (lm_sv' (lm_de s) z)), fun q hq => lm_u_row hq, lm_hl3_st hv ⟨hst, c⟩, fun R K => head R (lm_e233_164 ?_)⟩
    rw [e1] at K
    have tail : lm_rn (lm_sc xs) d lm_m233.2.2.2.2.1 (lm_reg lm_m233.2.2.2.2.2) (198, [(0, .ref 76), (1, .ref p), (3, .ref 5), (4, .int (Int32.ofNat (st.1 + 1))), (5, .int (Int32.ofNat t))], [.int (Int32.ofInt (lm_sv' (lm_de s) z)), .int (Int32.ofNat st.1), .ref p]) (lm_w m n x) = some R := by
      refine lm_e233_198 ?_
      unfold lm_q233_198
      repeat (first
    | ((with_reducible apply lm_sI); exact rfl)
    | ((with_reducible apply lm_sR); exact rfl)
    | ((with_reducible apply lm_sS); exact rfl; exact rfl)
    | ((with_reducible apply lm_sL); exact rfl)
    | ((with_reducible apply lm_sP); exact rfl; exact rfl)
    | ((with_reducible apply lm_sPL); exact rfl; exact rfl)
    | ((with_reducible apply lm_sAA); exact rfl; exact rfl)
    | ((with_reducible apply lm_sA); (first | exact rfl | assumption); omega)
    | ((with_reducible apply lm_sJ); (first | exact rfl | assumption); omega)
    | ((with_reducible apply lm_sB); (first | exact rfl | assumption); omega)
    | ((with_reducible apply lm_wA); (first | exact rfl | assumption); omega)
    | ((with_reducible apply lm_wJ); (first | exact rfl | assumption); omega)
    | ((with_reducible apply lm_wB); (first | exact rfl | assumption); omega)
    | ((with_reducible apply lm_sAl); (first | exact rfl | assumption); omega)
    | ((with_reducible apply lm_iW); decide))
      refine lm_e233_199 ?_
      unfold lm_q233_199
      rw [lm_K1, lm_oo]
      exact K
    unfold lm_q233_164
    refine lm_geF (by omega) (by omega) (by omega) ?_
    repeat (first
    | ((with_reducible apply lm_sI); exact rfl)
    | ((with_reducible apply lm_sR); exact rfl)
    | ((with_reducible apply lm_sS); exact rfl; exact rfl)
    | ((with_reducible apply lm_sL); exact rfl)
    | ((with_reducible apply lm_sP); exact rfl; exact rfl)
    | ((with_reducible apply lm_sPL); exact rfl; exact rfl)
    | ((with_reducible apply lm_sAA); exact rfl; exact rfl)
    | ((with_reducible apply lm_sA); (first | exact rfl | assumption); omega)
    | ((with_reducible apply lm_sJ); (first | exact rfl | assumption); omega)
    | ((with_reducible apply lm_sB); (first | exact rfl | assumption); omega)
    | ((with_reducible apply lm_wA); (first | exact rfl | assumption); omega)
    | ((with_reducible apply lm_wJ); (first | exact rfl | assumption); omega)
    | ((with_reducible apply lm_wB); (first | exact rfl | assumption); omega)
    | ((with_reducible apply lm_sAl); (first | exact rfl | assumption); omega)
    | ((with_reducible apply lm_iW); decide))
    simp only [Nat.reduceDiv, Nat.reduceMod]
    rw [h17]
    refine lm_eta hs ?_
    rw [lm_K2, lm_K1, lm_oo]
    rcases hd with e0 | e0
    · rw [e0] at tail ⊢
      refine lm_neF (by decide) (by decide) (fun g => g rfl) (lm_iW (by decide) ?_)
      rw [lm_K5, lm_orm (by omega) (by omega), lm_oN 2, lm_oN (z % 5), lm_iS]
      exact tail
    · rw [e0] at tail ⊢
      refine lm_neT (by decide) (by decide) (by decide) ?_
      rw [lm_oN z, lm_iS]
      exact tail
  · have e1 : lm_s41 (lm_de s) z st = st := by
      unfold lm_s41
      rw [if_neg (fun g => c g.2)]
    have hsl : lm_sl (lm_de s) ≤ 15 := by
      unfold lm_sl
      split <;> omega
    rw [e1]
    refine ⟨m, fun q hq => rfl, hv, fun R K => head R (lm_e233_164 ?_)⟩
    unfold lm_q233_164
    refine lm_geT (by omega) (by omega) (by omega) (lm_e233_199 ?_)
    unfold lm_q233_199
    rw [lm_K1, lm_oo]
    exact K
end LMSE
