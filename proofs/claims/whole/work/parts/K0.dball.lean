/-! ===== Dsa: the ball ===== -/
def ln_b1 (sg : Nat → Bool) (b : Nat) (st : Nat × (Nat → Int)) : Nat × (Nat → Int) := if st.1 < 256 ∧ b ≤ st.1 then (st.1 + 1, fun i => if i = b then (if sg st.1 then -1 else 1) else if i = st.1 then st.2 b else st.2 i) else st
def lm_bl (sg : Nat → Bool) (B : Nat → Nat) (p0 : Nat) : Nat → Nat × (Nat → Int)
  | 0 => (p0, fun _ => 0)
  | n + 1 => ln_b1 sg (B n) (lm_bl sg B p0 n)
section LMBL
variable {sg : Nat → Bool} {B : Nat → Nat} {p0 : Nat}
theorem lm_bl_s (n : Nat) : lm_bl sg B p0 (n + 1) = ln_b1 sg (B n) (lm_bl sg B p0 n) := by rw [lm_bl]
theorem ln_b1_y {b : Nat} {st : Nat × (Nat → Int)} (h1 : st.1 < 256) (h2 : b ≤ st.1) : ln_b1 sg b st = (st.1 + 1, fun i => if i = b then (if sg st.1 then -1 else 1) else if i = st.1 then st.2 b else st.2 i) := by
  unfold ln_b1
  rw [if_pos ⟨h1, h2⟩]
theorem ln_b1_n {b : Nat} {st : Nat × (Nat → Int)} (h : ¬ (st.1 < 256 ∧ b ≤ st.1)) : ln_b1 sg b st = st := by
  unfold ln_b1
  rw [if_neg h]
theorem ln_b1_b {b : Nat} {st : Nat × (Nat → Int)} (h : st.1 ≤ 256 ∧ ∀ i, -1 ≤ st.2 i ∧ st.2 i ≤ 1) : (ln_b1 sg b st).1 ≤ 256 ∧ st.1 ≤ (ln_b1 sg b st).1 ∧ ∀ i, -1 ≤ (ln_b1 sg b st).2 i ∧ (ln_b1 sg b st).2 i ≤ 1 := by
  by_cases c : st.1 < 256 ∧ b ≤ st.1
  · rw [ln_b1_y c.1 c.2]
    refine ⟨by show st.1 + 1 ≤ 256; omega, by show st.1 ≤ st.1 + 1; omega, fun i => ?_⟩
    show -1 ≤ (if i = b then (if sg st.1 then (-1 : Int) else 1) else if i = st.1 then st.2 b else st.2 i) ∧ (if i = b then (if sg st.1 then (-1 : Int) else 1) else if i = st.1 then st.2 b else st.2 i) ≤ 1
    have h1 := h.2 b
    have h2 := h.2 i
    split
    · split <;> omega
    · split <;> omega
  · rw [ln_b1_n c]
    exact ⟨h.1, Nat.le_refl _, h.2⟩
theorem lm_bl_b (hp : p0 ≤ 256) : ∀ n, (lm_bl sg B p0 n).1 ≤ 256 ∧ ∀ i, -1 ≤ (lm_bl sg B p0 n).2 i ∧ (lm_bl sg B p0 n).2 i ≤ 1 := by
  intro n
  induction n with
  | zero => exact ⟨hp, fun i => by show -1 ≤ (0 : Int) ∧ (0 : Int) ≤ 1; decide⟩
  | succ n ih =>
    rw [lm_bl_s]
    have := ln_b1_b (sg := sg) (b := B n) ih
    exact ⟨this.1, this.2.2⟩
theorem lm_bl_ge (hp : p0 ≤ 256) : ∀ n, p0 ≤ (lm_bl sg B p0 n).1 := by
  intro n
  induction n with
  | zero => exact Nat.le_refl _
  | succ n ih =>
    rw [lm_bl_s]
    have := ln_b1_b (sg := sg) (b := B n) (lm_bl_b (sg := sg) (B := B) hp n)
    omega
/-- when it is full it stays so -/
theorem lm_bl_end {n : Nat} (h : (lm_bl sg B p0 n).1 = 256) : ∀ j, lm_bl sg B p0 (n + j) = lm_bl sg B p0 n := by
  intro j
  induction j with
  | zero => rfl
  | succ j ih =>
    rw [← Nat.add_assoc, lm_bl_s, ih, ln_b1_n (by omega)]
theorem lm_bl_ext {sg' : Nat → Bool} {B' : Nat → Nat} (h1 : ∀ i, p0 ≤ i → i < 256 → sg i = sg' i) (hp : p0 ≤ 256) : ∀ n, (∀ i, i < n → B i = B' i) → lm_bl sg B p0 n = lm_bl sg' B' p0 n := by
  intro n
  induction n with
  | zero => intro _; rfl
  | succ n ih =>
    intro h
    rw [lm_bl_s, lm_bl_s, ← ih (fun i hi => h i (by omega)), ← h n (by omega)]
    have hg := lm_bl_ge (sg := sg) (B := B) hp n
    generalize lm_bl sg B p0 n = st at *
    by_cases c : st.1 < 256 ∧ B n ≤ st.1
    · rw [ln_b1_y c.1 c.2, ln_b1_y c.1 c.2, h1 st.1 hg c.1]
    · rw [ln_b1_n c, ln_b1_n c]
end LMBL
theorem ln_an8 : ∀ i, i < 64 → (Int32.ofNat i) &&& (Int32.ofInt 7) = Int32.ofNat (i % 8) := by decide
/-- the ball out of a hash -/
def lm_bS (H : Nat → Int32) (tau : Nat) (p : Nat) : Bool := ln_bt H (p + tau - 256)
def ln_bB (H : Nat → Int32) (i : Nat) : Nat := lm_yb (H (8 + i))
def lm_ba (H : Nat → Int32) (tau n : Nat) : Nat × (Nat → Int) := lm_bl (lm_bS H tau) (ln_bB H) (256 - tau) n
section LMDB
variable {xs : List Int32} {C : lm_CX} {d s q v : Nat} {m : lm_MI} {n : lm_ML} {x : lm_H × Nat × Nat} {G H : Nat → Int32}
theorem lm_l254 (hs : s ≤ 2) (h17 : m 76 17 = Int32.ofNat s) (hx : lm_rom x) (hH : ∀ i, i < 129 → lm_b8 (m 188 i) = lm_b8 (H i)) : ∀ j i, i + j = 121 → ∀ m1, lm_PA m m1 185 (lm_ba H (lm_dt' s) i).2 → (lm_ba H (lm_dt' s) i).1 < 256 ∨ True → ∃ m', lm_PA m m' 185 (lm_ba H (lm_dt' s) 121).2 ∧ lm_rn (lm_sc xs) d lm_m254.2.2.2.2.1 (lm_reg lm_m254.2.2.2.2.2) (61, [(0, .ref 76), (3, .int (Int32.ofNat (lm_ba H (lm_dt' s) i).1)), (4, .int (Int32.ofNat (8 + i)))], []) (lm_w m1 n x) = if (lm_ba H (lm_dt' s) 121).1 = 256 then some (.ok none, lm_w m' n x) else some (.error (lm_xp x), lm_w m' n (lm_xx 15 x)) := by
  have hpar := lm_dpar s hs
  have endr : ∀ p, p ≤ 256 → ∀ m1, lm_rn (lm_sc xs) d lm_m254.2.2.2.2.1 (lm_reg lm_m254.2.2.2.2.2) (166, [(3, .int (Int32.ofNat p))], []) (lm_w m1 n x) = if p = 256 then some (.ok none, lm_w m1 n x) else some (.error (lm_xp x), lm_w m1 n (lm_xx 15 x)) := by
    intro p hp m1
    by_cases c : p = 256
    · rw [if_pos c]
      refine lm_e254_166 ?_
      unfold lm_q254_166
      rw [lm_K256]
      exact lm_geT (by omega) (by omega) (by omega) rfl
    · rw [if_neg c]
      refine lm_e254_166 ?_
      unfold lm_q254_166
      rw [lm_K256]
      refine lm_geF (by omega) (by omega) (by omega) ?_
      exact lm_wT hx
  intro j
  induction j with
  | zero =>
    intro i hi m1 h1 _
    have e : i = 121 := by omega
    subst e
    have hb := (lm_bl_b (sg := lm_bS H (lm_dt' s)) (B := ln_bB H) (p0 := 256 - lm_dt' s) (by omega) 121).1
    have hb' : (lm_ba H (lm_dt' s) 121).1 ≤ 256 := hb
    refine ⟨m1, h1, ?_⟩
    have e2 : ∀ R, lm_rn (lm_sc xs) d lm_m254.2.2.2.2.1 (lm_reg lm_m254.2.2.2.2.2) (166, [(3, .int (Int32.ofNat (lm_ba H (lm_dt' s) 121).1))], []) (lm_w m1 n x) = some R → lm_rn (lm_sc xs) d lm_m254.2.2.2.2.1 (lm_reg lm_m254.2.2.2.2.2) (61, [(0, .ref 76), (3, .int (Int32.ofNat (lm_ba H (lm_dt' s) 121).1)), (4, .int (Int32.ofNat (8 + 121)))], []) (lm_w m1 n x) = some R := by
      intro R K
      refine lm_e254_61 ?_
      unfold lm_q254_61
      rw [show Int32.ofInt 129 = Int32.ofNat 129 from rfl]
      exact lm_geT (by omega) (by omega) (by omega) K
    have e3 := endr _ hb' m1
    by_cases c : (lm_ba H (lm_dt' s) 121).1 = 256
    · rw [if_pos c] at e3 ⊢
      exact e2 _ e3
    · rw [if_neg c] at e3 ⊢
      exact e2 _ e3
  | succ j ih =>
    intro i hi m1 h1 _
    have hb := lm_bl_b (sg := lm_bS H (lm_dt' s)) (B := ln_bB H) (p0 := 256 - lm_dt' s) (by omega) i
    have hge := lm_bl_ge (sg := lm_bS H (lm_dt' s)) (B := ln_bB H) (p0 := 256 - lm_dt' s) (by omega) i
    by_cases c : (lm_ba H (lm_dt' s) i).1 = 256
    · have e := lm_bl_end (sg := lm_bS H (lm_dt' s)) (B := ln_bB H) (p0 := 256 - lm_dt' s) c (j + 1)
      rw [show i + (j + 1) = 121 by omega] at e
      have e' : lm_ba H (lm_dt' s) 121 = lm_ba H (lm_dt' s) i := e
      rw [e']
      refine ⟨m1, h1, ?_⟩
      rw [if_pos c]
      have e3 := endr 256 (by omega) m1
      rw [if_pos rfl] at e3
      rw [c]
      refine lm_e254_61 ?_
      unfold lm_q254_61
      rw [show Int32.ofInt 129 = Int32.ofNat 129 from rfl, lm_K256]
      refine lm_geF (by omega) (by omega) (by omega) ?_
      refine lm_geT (by omega) (by omega) (by omega) ?_
      exact e3
    · have es : lm_ba H (lm_dt' s) (i + 1) = ln_b1 (lm_bS H (lm_dt' s)) (ln_bB H i) (lm_ba H (lm_dt' s) i) := lm_bl_s i
      have hB : ln_bB H i < 256 := by unfold ln_bB; exact lm_yb_lt _
      have eB : lm_yb (m1 188 (8 + i)) = ln_bB H i := by
        rw [h1.1 188 (by decide)]
        exact lm_b8_ne (hH (8 + i) (by omega))
      have hb1 : (lm_ba H (lm_dt' s) i).1 ≤ 256 := hb.1
      have hge1 : 256 - lm_dt' s ≤ (lm_ba H (lm_dt' s) i).1 := hge
      have h17' : m1 76 17 = Int32.ofNat s := by rw [h1.1 76 (by decide)]; exact h17
      by_cases c2 : ln_bB H i ≤ (lm_ba H (lm_dt' s) i).1
      · rw [ln_b1_y (by omega) c2] at es
        have eg : ln_bt (fun j => m1 188 j) ((lm_ba H (lm_dt' s) i).1 + lm_dt' s - 256) = lm_bS H (lm_dt' s) (lm_ba H (lm_dt' s) i).1 := by
          unfold lm_bS ln_bt
          rw [h1.1 188 (by decide), lm_b8_ne (hH (((lm_ba H (lm_dt' s) i).1 + lm_dt' s - 256) / 8) (by omega))]
        generalize hP : lm_ba H (lm_dt' s) i = st at *
        generalize ln_bB H i = b at *
        obtain ⟨m', a1, a2⟩ := ih (i + 1) (by omega) (lm_u (lm_u m1 185 st.1 (Int32.ofInt (st.2 b))) 185 b (Int32.ofInt (if lm_bS H (lm_dt' s) st.1 then -1 else 1))) ⟨fun r hr => by rw [lm_u_row hr, lm_u_row hr, h1.1 r hr], fun k hk => by
          rw [es]
          show _ = Int32.ofInt (if k = b then (if lm_bS H (lm_dt' s) st.1 then -1 else 1) else if k = st.1 then st.2 b else st.2 k)
          by_cases k1 : k = b
          · subst k1; rw [lm_u_eq, if_pos rfl]
          · rw [lm_u_ne (fun g => k1 g.2), if_neg k1]
            by_cases k2 : k = st.1
            · rw [if_pos k2, k2, lm_u_eq]
            · rw [lm_u_ne (fun g => k2 g.2), if_neg k2]
              exact h1.2 k hk⟩ (Or.inr trivial)
        refine ⟨m', a1, ?_⟩
        have run : ∀ R, lm_rn (lm_sc xs) d lm_m254.2.2.2.2.1 (lm_reg lm_m254.2.2.2.2.2) (61, [(0, .ref 76), (3, .int (Int32.ofNat (st.1 + 1))), (4, .int (Int32.ofNat (8 + (i + 1))))], []) (lm_w (lm_u (lm_u m1 185 st.1 (Int32.ofInt (st.2 b))) 185 b (Int32.ofInt (if lm_bS H (lm_dt' s) st.1 then -1 else 1))) n x) = some R → lm_rn (lm_sc xs) d lm_m254.2.2.2.2.1 (lm_reg lm_m254.2.2.2.2.2) (61, [(0, .ref 76), (3, .int (Int32.ofNat st.1)), (4, .int (Int32.ofNat (8 + i)))], []) (lm_w m1 n x) = some R := by
          intro R K
          refine lm_e254_61 ?_
          unfold lm_q254_61
          rw [show Int32.ofInt 129 = Int32.ofNat 129 from rfl, lm_K256]
          refine lm_geF (by omega) (by omega) (by omega) ?_
          refine lm_geF (by omega) (by omega) (by omega) ?_
          repeat (first
    | ((with_reducible apply lm_sI); exact rfl)
    | ((with_reducible apply lm_sR); exact rfl)
    | ((with_reducible apply lm_sS); exact rfl; exact rfl)
    | ((with_reducible apply lm_sL); exact rfl)
    | ((with_reducible apply lm_sP); exact rfl; exact rfl)
    | ((with_reducible apply lm_sPL); exact rfl; exact rfl)
    | ((with_reducible apply lm_sAA); exact rfl; exact rfl)
    | ((with_reducible apply lm_sA); (first | exact rfl | assumption); omega)
    | ((with_reducible apply lm_sJ); (first | exact rfl | assumption); omega)
    | ((with_reducible apply lm_sB); (first | exact rfl | assumption); omega)
    | ((with_reducible apply lm_wA); (first | exact rfl | assumption); omega)
    | ((with_reducible apply lm_wJ); (first | exact rfl | assumption); omega)
    | ((with_reducible apply lm_wB); (first | exact rfl | assumption); omega)
    | ((with_reducible apply lm_sAl); (first | exact rfl | assumption); omega)
    | ((with_reducible apply lm_iW); decide))
          rw [lm_b8u, eB]
          refine lm_gtF (by omega) (by omega) (by omega) ?_
          repeat (first
    | ((with_reducible apply lm_sI); exact rfl)
    | ((with_reducible apply lm_sR); exact rfl)
    | ((with_reducible apply lm_sS); exact rfl; exact rfl)
    | ((with_reducible apply lm_sL); exact rfl)
    | ((with_reducible apply lm_sP); exact rfl; exact rfl)
    | ((with_reducible apply lm_sPL); exact rfl; exact rfl)
    | ((with_reducible apply lm_sAA); exact rfl; exact rfl)
    | ((with_reducible apply lm_sA); (first | exact rfl | assumption); omega)
    | ((with_reducible apply lm_sJ); (first | exact rfl | assumption); omega)
    | ((with_reducible apply lm_sB); (first | exact rfl | assumption); omega)
    | ((with_reducible apply lm_wA); (first | exact rfl | assumption); omega)
    | ((with_reducible apply lm_wJ); (first | exact rfl | assumption); omega)
    | ((with_reducible apply lm_wB); (first | exact rfl | assumption); omega)
    | ((with_reducible apply lm_sAl); (first | exact rfl | assumption); omega)
    | ((with_reducible apply lm_iW); decide))
          simp only [Nat.reduceDiv, Nat.reduceMod]
          rw [h17']
          refine ln_tb14 hs ?_
          rw [lm_oo, lm_osu (by omega), show Int32.ofInt 3 = Int32.ofNat 3 from rfl, lm_srN (by omega) (by omega), ln_an8 _ (by omega), show (2 : Nat) ^ 3 = 8 from rfl]
          repeat (first
    | ((with_reducible apply lm_sI); exact rfl)
    | ((with_reducible apply lm_sR); exact rfl)
    | ((with_reducible apply lm_sS); exact rfl; exact rfl)
    | ((with_reducible apply lm_sL); exact rfl)
    | ((with_reducible apply lm_sP); exact rfl; exact rfl)
    | ((with_reducible apply lm_sPL); exact rfl; exact rfl)
    | ((with_reducible apply lm_sAA); exact rfl; exact rfl)
    | ((with_reducible apply lm_sA); (first | exact rfl | assumption); omega)
    | ((with_reducible apply lm_sJ); (first | exact rfl | assumption); omega)
    | ((with_reducible apply lm_sB); (first | exact rfl | assumption); omega)
    | ((with_reducible apply lm_wA); (first | exact rfl | assumption); omega)
    | ((with_reducible apply lm_wJ); (first | exact rfl | assumption); omega)
    | ((with_reducible apply lm_wB); (first | exact rfl | assumption); omega)
    | ((with_reducible apply lm_sAl); (first | exact rfl | assumption); omega)
    | ((with_reducible apply lm_iW); decide))
          rw [lm_u_row (by decide), lm_bit1 _ (by omega), lm_yb_tb _ (by omega), h1.2 b (by omega)]
          have eg' : (lm_yb (m1 188 ((st.1 + lm_dt' s - 256) / 8))).testBit ((st.1 + lm_dt' s - 256) % 8) = lm_bS H (lm_dt' s) st.1 := eg
          rw [eg']
          have fin : ∀ w, w = Int32.ofInt (if lm_bS H (lm_dt' s) st.1 then -1 else 1) → lm_rn (lm_sc xs) d lm_m254.2.2.2.2.1 (lm_reg lm_m254.2.2.2.2.2) (156, [(0, .ref 76), (3, .int (Int32.ofNat st.1)), (4, .int (Int32.ofNat (8 + i)))], [.int w, .int (Int32.ofNat b), .ref 185]) (lm_w (lm_u m1 185 st.1 (Int32.ofInt (st.2 b))) n x) = some R := by
            intro w hw
            subst hw
            refine lm_e254_156 ?_
            unfold lm_q254_156
            repeat (first
    | ((with_reducible apply lm_sI); exact rfl)
    | ((with_reducible apply lm_sR); exact rfl)
    | ((with_reducible apply lm_sS); exact rfl; exact rfl)
    | ((with_reducible apply lm_sL); exact rfl)
    | ((with_reducible apply lm_sP); exact rfl; exact rfl)
    | ((with_reducible apply lm_sPL); exact rfl; exact rfl)
    | ((with_reducible apply lm_sAA); exact rfl; exact rfl)
    | ((with_reducible apply lm_sA); (first | exact rfl | assumption); omega)
    | ((with_reducible apply lm_sJ); (first | exact rfl | assumption); omega)
    | ((with_reducible apply lm_sB); (first | exact rfl | assumption); omega)
    | ((with_reducible apply lm_wA); (first | exact rfl | assumption); omega)
    | ((with_reducible apply lm_wJ); (first | exact rfl | assumption); omega)
    | ((with_reducible apply lm_wB); (first | exact rfl | assumption); omega)
    | ((with_reducible apply lm_sAl); (first | exact rfl | assumption); omega)
    | ((with_reducible apply lm_iW); decide))
            rw [lm_K1, lm_oo]
            refine lm_e254_160 ?_
            unfold lm_q254_160
            rw [lm_K1, lm_oo]
            exact K
          cases hc : lm_bS H (lm_dt' s) st.1 with
          | true =>
            refine lm_iF (show ¬ ¬ Int32.ofNat (true.toNat) = Int32.ofInt 1 by decide) ?_
            exact fin _ (by rw [hc]; rfl)
          | false =>
            refine lm_iT (show ¬ Int32.ofNat (false.toNat) = Int32.ofInt 1 by decide) ?_
            exact fin _ (by rw [hc]; rfl)
        rw [es] at a2
        by_cases cc : (lm_ba H (lm_dt' s) 121).1 = 256
        · rw [if_pos cc] at a2 ⊢
          exact run _ a2
        · rw [if_neg cc] at a2 ⊢
          exact run _ a2
      · rw [ln_b1_n (fun g => c2 g.2)] at es
        obtain ⟨m', a1, a2⟩ := ih (i + 1) (by omega) m1 (by rw [es]; exact h1) (Or.inr trivial)
        refine ⟨m', a1, ?_⟩
        rw [es] at a2
        have run : ∀ R, lm_rn (lm_sc xs) d lm_m254.2.2.2.2.1 (lm_reg lm_m254.2.2.2.2.2) (61, [(0, .ref 76), (3, .int (Int32.ofNat (lm_ba H (lm_dt' s) i).1)), (4, .int (Int32.ofNat (8 + (i + 1))))], []) (lm_w m1 n x) = some R → lm_rn (lm_sc xs) d lm_m254.2.2.2.2.1 (lm_reg lm_m254.2.2.2.2.2) (61, [(0, .ref 76), (3, .int (Int32.ofNat (lm_ba H (lm_dt' s) i).1)), (4, .int (Int32.ofNat (8 + i)))], []) (lm_w m1 n x) = some R := by
          intro R K
          refine lm_e254_61 ?_
          unfold lm_q254_61
          rw [show Int32.ofInt 129 = Int32.ofNat 129 from rfl, lm_K256]
          refine lm_geF (by omega) (by omega) (by omega) ?_
          refine lm_geF (by omega) (by omega) (by omega) ?_
          repeat (first
    | ((with_reducible apply lm_sI); exact rfl)
    | ((with_reducible apply lm_sR); exact rfl)
    | ((with_reducible apply lm_sS); exact rfl; exact rfl)
    | ((with_reducible apply lm_sL); exact rfl)
    | ((with_reducible apply lm_sP); exact rfl; exact rfl)
    | ((with_reducible apply lm_sPL); exact rfl; exact rfl)
    | ((with_reducible apply lm_sAA); exact rfl; exact rfl)
    | ((with_reducible apply lm_sA); (first | exact rfl | assumption); omega)
    | ((with_reducible apply lm_sJ); (first | exact rfl | assumption); omega)
    | ((with_reducible apply lm_sB); (first | exact rfl | assumption); omega)
    | ((with_reducible apply lm_wA); (first | exact rfl | assumption); omega)
    | ((with_reducible apply lm_wJ); (first | exact rfl | assumption); omega)
    | ((with_reducible apply lm_wB); (first | exact rfl | assumption); omega)
    | ((with_reducible apply lm_sAl); (first | exact rfl | assumption); omega)
    | ((with_reducible apply lm_iW); decide))
          rw [lm_b8u, eB]
          refine lm_gtT (by omega) (by omega) (by omega) ?_
          refine lm_e254_160 ?_
          unfold lm_q254_160
          rw [lm_K1, lm_oo]
          exact K
        by_cases cc : (lm_ba H (lm_dt' s) 121).1 = 256
        · rw [if_pos cc] at a2 ⊢
          exact run _ a2
        · rw [if_neg cc] at a2 ⊢
          exact run _ a2
/-- fillBall -/
theorem lm_u254 (hC : lm_Cok xs C) (hr : ln_rt m) (hx : lm_rom x) (hs : s ≤ 2) (h17 : m 76 17 = Int32.ofNat s) (hq : lm_ar q = some (1, v)) (gq : 22 < q) (gq8 : q ≠ 76) (hqv : lm_dsz s ≤ v) (hv : v ≤ 70000) (hG : ∀ t, t < lm_dsz s → lm_b8 (m q t) = G t) : ∃ m' n', lm_cal (lm_sc xs) (d + 5) 254 [.ref 76, .ref q] (lm_w m n x) = (if (lm_ba (lm_Hm C 12 G (lm_dsz s)) (lm_dt' s) 121).1 = 256 then some (.ok none, lm_w m' n' x) else some (.error (lm_xp x), lm_w m' n' (lm_xx 15 x))) ∧ (∀ r, (r < 5 ∨ 22 < r) → r ≠ 185 → r ≠ 188 → m' r = m r) ∧ lm_fN m n m' n' ∧ ∀ c, c < 256 → m' 185 c = Int32.ofInt ((lm_ba (lm_Hm C 12 G (lm_dsz s)) (lm_dt' s) 121).2 c) := by
  have hpar := lm_dpar s hs
  obtain ⟨m1, n1, k1, s1, f1⟩ := lm_cS (xs := xs) (d := d + 1) (x := x) (m := m) (n := n) (k := 12) (G := G) hC hr (by decide) (by decide)
  obtain ⟨m2, n2, k2, s2, f2⟩ := lm_cA (xs := xs) (d := d) (x := x) (k := 12) (q := q) (v := v) (a := 0) (l := lm_dsz s) (L := 0) (G := G) hC (by decide) (by decide) (by omega) hq (by omega) hv (fun t ht => by
    rw [f1.1 q (by omega), Nat.zero_add]
    exact hG t ht) s1
  rw [Nat.zero_add] at s2
  obtain ⟨m3, n3, k3, f3⟩ := lm_cF (xs := xs) (d := d) (x := x) (k := 12) (q := 188) (v := 640) (a := 0) (l := 129) hC (by decide) (by decide) (by decide) rfl (by decide) (by decide) (fun h => absurd h (by decide)) s2
  have fC := f1.tr (f2.tr f3)
  generalize eM : lm_fil m3 188 0 (0 + 129) (fun i => lm_Hm C 12 G (lm_dsz s) (i - 0)) = M at k3
  have rM : ∀ r, r ≠ 188 → M r = m3 r := fun r hr => by rw [← eM, lm_fl_row hr]
  obtain ⟨m4, k4, p4⟩ := lm_u287 (sc := lm_sc xs) (d := d + 3) (m := M) (n := n3) (x := x) (p := 185) rfl
  have h17' : m4 76 17 = Int32.ofNat s := by rw [p4.1 76 (by decide), rM 76 (by decide), fC.1 76 (by decide)]; exact h17
  obtain ⟨m5, p5, k5⟩ := lm_l254 (xs := xs) (d := d + 4) (m := m4) (n := n3) (x := x) (s := s) (H := lm_Hm C 12 G (lm_dsz s)) hs h17' hx (fun i hi => by rw [p4.1 188 (by decide), ← eM, lm_fl_in (by omega), Nat.sub_zero]) 121 0 (by omega) m4 ⟨fun _ _ => rfl, fun c hc => p4.2 c hc⟩ (Or.inr trivial)
  have e0 : (lm_ba (lm_Hm C 12 G (lm_dsz s)) (lm_dt' s) 0).1 = 256 - lm_dt' s := rfl
  rw [e0] at k5
  refine ⟨m5, n3, ?_, fun r q1 q2 q3 => by rw [p5.1 r q2, p4.1 r q2, rM r q3, fC.1 r q1], ?_, p5.2⟩
  · have run : ∀ R, lm_rn (lm_sc xs) (d + 4) lm_m254.2.2.2.2.1 (lm_reg lm_m254.2.2.2.2.2) (61, [(0, .ref 76), (3, .int (Int32.ofNat (256 - lm_dt' s))), (4, .int (Int32.ofNat (8 + 0)))], []) (lm_w m4 n3 x) = some R → lm_cal (lm_sc xs) (d + 5) 254 [.ref 76, .ref q] (lm_w m n x) = some R := by
      intro R K
      refine lm_cal_of (Y := lm_m254) rfl rfl (lm_e254_0 ?_)
      unfold lm_q254_0
      rw [lm_K12, lm_K0, show Int32.ofInt 129 = Int32.ofNat 129 from rfl, lm_K256, lm_K8]
      repeat (first
    | ((with_reducible apply lm_sI); exact rfl)
    | ((with_reducible apply lm_sR); exact rfl)
    | ((with_reducible apply lm_sS); exact rfl; exact rfl)
    | ((with_reducible apply lm_sL); exact rfl)
    | ((with_reducible apply lm_sP); exact rfl; exact rfl)
    | ((with_reducible apply lm_sPL); exact rfl; exact rfl)
    | ((with_reducible apply lm_sAA); exact rfl; exact rfl)
    | ((with_reducible apply lm_sA); (first | exact rfl | assumption); omega)
    | ((with_reducible apply lm_sJ); (first | exact rfl | assumption); omega)
    | ((with_reducible apply lm_sB); (first | exact rfl | assumption); omega)
    | ((with_reducible apply lm_wA); (first | exact rfl | assumption); omega)
    | ((with_reducible apply lm_wJ); (first | exact rfl | assumption); omega)
    | ((with_reducible apply lm_wB); (first | exact rfl | assumption); omega)
    | ((with_reducible apply lm_sAl); (first | exact rfl | assumption); omega)
    | ((with_reducible apply lm_iW); decide))
      refine lm_cR k1 ?_
      repeat (first
    | ((with_reducible apply lm_sI); exact rfl)
    | ((with_reducible apply lm_sR); exact rfl)
    | ((with_reducible apply lm_sS); exact rfl; exact rfl)
    | ((with_reducible apply lm_sL); exact rfl)
    | ((with_reducible apply lm_sP); exact rfl; exact rfl)
    | ((with_reducible apply lm_sPL); exact rfl; exact rfl)
    | ((with_reducible apply lm_sAA); exact rfl; exact rfl)
    | ((with_reducible apply lm_sA); (first | exact rfl | assumption); omega)
    | ((with_reducible apply lm_sJ); (first | exact rfl | assumption); omega)
    | ((with_reducible apply lm_sB); (first | exact rfl | assumption); omega)
    | ((with_reducible apply lm_wA); (first | exact rfl | assumption); omega)
    | ((with_reducible apply lm_wJ); (first | exact rfl | assumption); omega)
    | ((with_reducible apply lm_wB); (first | exact rfl | assumption); omega)
    | ((with_reducible apply lm_sAl); (first | exact rfl | assumption); omega)
    | ((with_reducible apply lm_iW); decide))
      simp only [Nat.reduceDiv, Nat.reduceMod]
      rw [f1.1 76 (by decide), h17]
      refine ln_tb13 hs ?_
      repeat (first
    | ((with_reducible apply lm_sI); exact rfl)
    | ((with_reducible apply lm_sR); exact rfl)
    | ((with_reducible apply lm_sS); exact rfl; exact rfl)
    | ((with_reducible apply lm_sL); exact rfl)
    | ((with_reducible apply lm_sP); exact rfl; exact rfl)
    | ((with_reducible apply lm_sPL); exact rfl; exact rfl)
    | ((with_reducible apply lm_sAA); exact rfl; exact rfl)
    | ((with_reducible apply lm_sA); (first | exact rfl | assumption); omega)
    | ((with_reducible apply lm_sJ); (first | exact rfl | assumption); omega)
    | ((with_reducible apply lm_sB); (first | exact rfl | assumption); omega)
    | ((with_reducible apply lm_wA); (first | exact rfl | assumption); omega)
    | ((with_reducible apply lm_wJ); (first | exact rfl | assumption); omega)
    | ((with_reducible apply lm_wB); (first | exact rfl | assumption); omega)
    | ((with_reducible apply lm_sAl); (first | exact rfl | assumption); omega)
    | ((with_reducible apply lm_iW); decide))
      refine lm_cV k2 ?_
      repeat (first
    | ((with_reducible apply lm_sI); exact rfl)
    | ((with_reducible apply lm_sR); exact rfl)
    | ((with_reducible apply lm_sS); exact rfl; exact rfl)
    | ((with_reducible apply lm_sL); exact rfl)
    | ((with_reducible apply lm_sP); exact rfl; exact rfl)
    | ((with_reducible apply lm_sPL); exact rfl; exact rfl)
    | ((with_reducible apply lm_sAA); exact rfl; exact rfl)
    | ((with_reducible apply lm_sA); (first | exact rfl | assumption); omega)
    | ((with_reducible apply lm_sJ); (first | exact rfl | assumption); omega)
    | ((with_reducible apply lm_sB); (first | exact rfl | assumption); omega)
    | ((with_reducible apply lm_wA); (first | exact rfl | assumption); omega)
    | ((with_reducible apply lm_wJ); (first | exact rfl | assumption); omega)
    | ((with_reducible apply lm_wB); (first | exact rfl | assumption); omega)
    | ((with_reducible apply lm_sAl); (first | exact rfl | assumption); omega)
    | ((with_reducible apply lm_iW); decide))
      refine lm_cV k3 ?_
      repeat (first
    | ((with_reducible apply lm_sI); exact rfl)
    | ((with_reducible apply lm_sR); exact rfl)
    | ((with_reducible apply lm_sS); exact rfl; exact rfl)
    | ((with_reducible apply lm_sL); exact rfl)
    | ((with_reducible apply lm_sP); exact rfl; exact rfl)
    | ((with_reducible apply lm_sPL); exact rfl; exact rfl)
    | ((with_reducible apply lm_sAA); exact rfl; exact rfl)
    | ((with_reducible apply lm_sA); (first | exact rfl | assumption); omega)
    | ((with_reducible apply lm_sJ); (first | exact rfl | assumption); omega)
    | ((with_reducible apply lm_sB); (first | exact rfl | assumption); omega)
    | ((with_reducible apply lm_wA); (first | exact rfl | assumption); omega)
    | ((with_reducible apply lm_wJ); (first | exact rfl | assumption); omega)
    | ((with_reducible apply lm_wB); (first | exact rfl | assumption); omega)
    | ((with_reducible apply lm_sAl); (first | exact rfl | assumption); omega)
    | ((with_reducible apply lm_iW); decide))
      refine lm_cV k4 ?_
      repeat (first
    | ((with_reducible apply lm_sI); exact rfl)
    | ((with_reducible apply lm_sR); exact rfl)
    | ((with_reducible apply lm_sS); exact rfl; exact rfl)
    | ((with_reducible apply lm_sL); exact rfl)
    | ((with_reducible apply lm_sP); exact rfl; exact rfl)
    | ((with_reducible apply lm_sPL); exact rfl; exact rfl)
    | ((with_reducible apply lm_sAA); exact rfl; exact rfl)
    | ((with_reducible apply lm_sA); (first | exact rfl | assumption); omega)
    | ((with_reducible apply lm_sJ); (first | exact rfl | assumption); omega)
    | ((with_reducible apply lm_sB); (first | exact rfl | assumption); omega)
    | ((with_reducible apply lm_wA); (first | exact rfl | assumption); omega)
    | ((with_reducible apply lm_wJ); (first | exact rfl | assumption); omega)
    | ((with_reducible apply lm_wB); (first | exact rfl | assumption); omega)
    | ((with_reducible apply lm_sAl); (first | exact rfl | assumption); omega)
    | ((with_reducible apply lm_iW); decide))
      simp only [Nat.reduceDiv, Nat.reduceMod]
      rw [h17']
      refine ln_tb14 hs ?_
      rw [lm_osu (by omega)]
      exact K
    by_cases c : (lm_ba (lm_Hm C 12 G (lm_dsz s)) (lm_dt' s) 121).1 = 256
    · rw [if_pos c] at k5 ⊢
      exact run _ k5
    · rw [if_neg c] at k5 ⊢
      exact run _ k5
  · refine fC.N.tr (.of ?_ ?_)
    · rw [p5.1 11 (by decide), p4.1 11 (by decide), rM 11 (by decide)]
    · rw [p5.1 17 (by decide), p4.1 17 (by decide), rM 17 (by decide)]
/-- multiplyBall -/
theorem lm_u309 {sc : lm_H} {p : Nat} {B F X Y : Nat → Int} (hz : ∀ k, k < 256 → m 77 k = Int32.ofInt (lm_zd k)) (hp : lm_ar p = some (0, 256)) (hp6 : p ≠ 186) (hX : ∀ c, c < 256 → m 185 c = Int32.ofInt (X c)) (hY : ∀ c, c < 256 → m p c = Int32.ofInt (Y c)) (bX : lm_bnd 100000000 X) (bY : lm_bnd 100000000 Y) (cX : ∀ c, c < 256 → ln_cg 8380417 (X c) (ln_pt B c)) (cY : ∀ c, c < 256 → ln_cg 8380417 (Y c) (ln_pt F c)) : ∃ m', lm_cal sc (d + 3) 309 [.ref 76, .ref p] (lm_w m n x) = some (.ok none, lm_w m' n x) ∧ lm_PA m m' 186 (fun c => ln_ce (lm_ng B F c % 8380417)) := by
  obtain ⟨m1, n1, ⟨en, g1, g2⟩, k1⟩ := lm_lp (sc := sc) (d := d + 2) (b := 256) (hs := lm_m309.2.2.2.2.1) (code := lm_reg lm_m309.2.2.2.2.2) (x := x) (fr := fun i => (2, [(0, .ref 76), (1, .ref p), (2, .int (Int32.ofNat i))], [])) (I := fun i m' n' => n' = n ∧ (∀ r, r ≠ 186 → m' r = m r) ∧ ∀ j, j < i → m' 186 j = Int32.ofInt ((X j * Y j).tmod 8380417)) (fun i hi m1 n1 ⟨en, g1, g2⟩ => by
    have b1 := bX i hi
    have b2 := bY i hi
    have b3 := lm_mulb b1 b2
    have e1 : m1 185 i = Int32.ofInt (X i) := by rw [g1 185 (by decide)]; exact hX i hi
    have e2 : m1 p i = Int32.ofInt (Y i) := by rw [g1 p hp6]; exact hY i hi
    refine ⟨lm_u m1 186 i (Int32.ofInt ((X i * Y i).tmod 8380417)), n1, ⟨en, fun r hr => (lm_u_row hr).trans (g1 r hr), fun j hj => ?_⟩, fun R K => lm_e309_2 ?_⟩
    · by_cases c : j = i
      · subst c; rw [lm_u_eq]
      · rw [lm_u_ne (by omega)]; exact g2 j (by omega)
    · unfold lm_q309_2
      rw [lm_K256]
      refine lm_geF (by omega) (by omega) (by omega) ?_
      repeat (first
    | ((with_reducible apply lm_sI); exact rfl)
    | ((with_reducible apply lm_sR); exact rfl)
    | ((with_reducible apply lm_sS); exact rfl; exact rfl)
    | ((with_reducible apply lm_sL); exact rfl)
    | ((with_reducible apply lm_sP); exact rfl; exact rfl)
    | ((with_reducible apply lm_sPL); exact rfl; exact rfl)
    | ((with_reducible apply lm_sAA); exact rfl; exact rfl)
    | ((with_reducible apply lm_sA); (first | exact rfl | assumption); omega)
    | ((with_reducible apply lm_sJ); (first | exact rfl | assumption); omega)
    | ((with_reducible apply lm_sB); (first | exact rfl | assumption); omega)
    | ((with_reducible apply lm_wA); (first | exact rfl | assumption); omega)
    | ((with_reducible apply lm_wJ); (first | exact rfl | assumption); omega)
    | ((with_reducible apply lm_wB); (first | exact rfl | assumption); omega)
    | ((with_reducible apply lm_sAl); (first | exact rfl | assumption); omega)
    | ((with_reducible apply lm_iW); decide))
      rw [e1, e2, lm_il (by omega) (by omega), lm_il (by omega) (by omega), lm_LM, lm_LN, lm_LR (by omega) (by omega) (by decide) (by decide), ln_li, lm_K1, lm_oo]
      exact K) 256 0 (by omega) m n ⟨rfl, fun _ _ => rfl, fun j hj => absurd hj (by omega)⟩
  subst en
  obtain ⟨m2, c2, p2⟩ := lm_u238 (sc := sc) (d := d) (m := m1) (n := n1) (x := x) (p := 186) (G := fun c => (X c * Y c).tmod 8380417) rfl (by decide) (fun k hk => by rw [g1 77 (by decide)]; exact hz k hk) (fun j hj => by
    have := lm_tmb (a := X j * Y j) (show (0 : Int) < 8380417 by decide)
    show -8380416 ≤ (X j * Y j).tmod 8380417 ∧ (X j * Y j).tmod 8380417 ≤ 8380416
    omega) g2
  have e2 : ∀ j, j < 256 → lm_ut (fun c => (X c * Y c).tmod 8380417) j % 8380417 = lm_ng B F j % 8380417 := fun j hj => ((lm_ut_cg (fun c hc => ln_cg.tm) j).tr (lm_ut_mul cX cY hj)).eq
  have p2' : lm_PA m m2 186 (fun j => lm_ng B F j % 8380417) := ⟨fun r hr => by rw [p2.1 r hr, g1 r hr], fun j hj => (p2.2 j hj).trans (congrArg Int32.ofInt (e2 j hj))⟩
  obtain ⟨m3, n3, ⟨en, h1⟩, k3⟩ := lm_lp (sc := sc) (d := d + 2) (b := 256) (hs := lm_m309.2.2.2.2.1) (code := lm_reg lm_m309.2.2.2.2.2) (x := x) (fr := fun i => (48, [(0, .ref 76), (2, .int (Int32.ofNat i))], [])) (I := fun i m' n' => n' = n1 ∧ lm_PA m m' 186 (fun j => if j < i then ln_ce (lm_ng B F j % 8380417) else lm_ng B F j % 8380417)) (fun i hi m1 n1 ⟨en, h1⟩ => by
    have e := h1.2 i hi
    dsimp only at e
    rw [if_neg (by omega)] at e
    have cc := lm_u310 (sc := sc) (d := d + 1) (σ := lm_w m1 n1 x) (r := lm_ng B F i % 8380417) ⟨Int.emod_nonneg _ (by decide), Int.emod_lt_of_pos _ (by decide)⟩
    refine ⟨lm_u m1 186 i (Int32.ofInt (ln_ce (lm_ng B F i % 8380417))), n1, ⟨en, fun r hr => (lm_u_row hr).trans (h1.1 r hr), fun j hj => ?_⟩, fun R K => lm_e309_48 ?_⟩
    · dsimp only
      by_cases c : j = i
      · subst c
        rw [lm_u_eq, if_pos (by omega)]
      · rw [lm_u_ne (by omega), h1.2 j hj]
        dsimp only
        by_cases c2 : j < i
        · rw [if_pos c2, if_pos (by omega)]
        · rw [if_neg c2, if_neg (by omega)]
    · unfold lm_q309_48
      rw [lm_K256]
      refine lm_geF (by omega) (by omega) (by omega) ?_
      repeat (first
    | ((with_reducible apply lm_sI); exact rfl)
    | ((with_reducible apply lm_sR); exact rfl)
    | ((with_reducible apply lm_sS); exact rfl; exact rfl)
    | ((with_reducible apply lm_sL); exact rfl)
    | ((with_reducible apply lm_sP); exact rfl; exact rfl)
    | ((with_reducible apply lm_sPL); exact rfl; exact rfl)
    | ((with_reducible apply lm_sAA); exact rfl; exact rfl)
    | ((with_reducible apply lm_sA); (first | exact rfl | assumption); omega)
    | ((with_reducible apply lm_sJ); (first | exact rfl | assumption); omega)
    | ((with_reducible apply lm_sB); (first | exact rfl | assumption); omega)
    | ((with_reducible apply lm_wA); (first | exact rfl | assumption); omega)
    | ((with_reducible apply lm_wJ); (first | exact rfl | assumption); omega)
    | ((with_reducible apply lm_wB); (first | exact rfl | assumption); omega)
    | ((with_reducible apply lm_sAl); (first | exact rfl | assumption); omega)
    | ((with_reducible apply lm_iW); decide))
      rw [e]
      refine lm_cI cc ?_
      repeat (first
    | ((with_reducible apply lm_sI); exact rfl)
    | ((with_reducible apply lm_sR); exact rfl)
    | ((with_reducible apply lm_sS); exact rfl; exact rfl)
    | ((with_reducible apply lm_sL); exact rfl)
    | ((with_reducible apply lm_sP); exact rfl; exact rfl)
    | ((with_reducible apply lm_sPL); exact rfl; exact rfl)
    | ((with_reducible apply lm_sAA); exact rfl; exact rfl)
    | ((with_reducible apply lm_sA); (first | exact rfl | assumption); omega)
    | ((with_reducible apply lm_sJ); (first | exact rfl | assumption); omega)
    | ((with_reducible apply lm_sB); (first | exact rfl | assumption); omega)
    | ((with_reducible apply lm_wA); (first | exact rfl | assumption); omega)
    | ((with_reducible apply lm_wJ); (first | exact rfl | assumption); omega)
    | ((with_reducible apply lm_wB); (first | exact rfl | assumption); omega)
    | ((with_reducible apply lm_sAl); (first | exact rfl | assumption); omega)
    | ((with_reducible apply lm_iW); decide))
      rw [lm_K1, lm_oo]
      exact K) 256 0 (by omega) m2 n1 ⟨rfl, p2'.hl fun j _ => by rw [if_neg (by omega)]⟩
  subst en
  refine ⟨m3, ?_, h1.hl fun j hj => by rw [if_pos hj]⟩
  refine lm_cal_of (Y := lm_m309) rfl rfl (lm_e309_0 ?_)
  unfold lm_q309_0
  rw [lm_K0]
  refine k1 _ (lm_e309_2 ?_)
  unfold lm_q309_2
  rw [lm_K256]
  refine lm_geT (by omega) (by omega) (by omega) ?_
  repeat (first
    | ((with_reducible apply lm_sI); exact rfl)
    | ((with_reducible apply lm_sR); exact rfl)
    | ((with_reducible apply lm_sS); exact rfl; exact rfl)
    | ((with_reducible apply lm_sL); exact rfl)
    | ((with_reducible apply lm_sP); exact rfl; exact rfl)
    | ((with_reducible apply lm_sPL); exact rfl; exact rfl)
    | ((with_reducible apply lm_sAA); exact rfl; exact rfl)
    | ((with_reducible apply lm_sA); (first | exact rfl | assumption); omega)
    | ((with_reducible apply lm_sJ); (first | exact rfl | assumption); omega)
    | ((with_reducible apply lm_sB); (first | exact rfl | assumption); omega)
    | ((with_reducible apply lm_wA); (first | exact rfl | assumption); omega)
    | ((with_reducible apply lm_wJ); (first | exact rfl | assumption); omega)
    | ((with_reducible apply lm_wB); (first | exact rfl | assumption); omega)
    | ((with_reducible apply lm_sAl); (first | exact rfl | assumption); omega)
    | ((with_reducible apply lm_iW); decide))
  refine lm_cV c2 ?_
  rw [lm_K0]
  refine k3 _ (lm_e309_48 ?_)
  unfold lm_q309_48
  rw [lm_K256]
  exact lm_geT (by omega) (by omega) (by omega) rfl
end LMDB
