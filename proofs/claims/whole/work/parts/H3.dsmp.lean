/-! ===== Dsa: sample of the class ===== -/
def lm_dw1 (v : Nat) (s : Nat × (Nat → Nat)) : Nat × (Nat → Nat) := if s.1 < 256 ∧ v < 8380417 then (s.1 + 1, fun i => if i = s.1 then v else s.2 i) else s
/-- t triples of the stream taken -/
def lm_dw' (B : Nat → Nat) : Nat → Nat × (Nat → Nat)
  | 0 => (0, fun _ => 0)
  | t + 1 => lm_dw1 (B (3 * t) + 256 * B (3 * t + 1) + 65536 * (B (3 * t + 2) % 128)) (lm_dw' B t)
theorem lm_dw_le {B : Nat → Nat} (t : Nat) : (lm_dw' B t).1 ≤ 256 := by
  induction t with
  | zero => exact Nat.zero_le _
  | succ t ih =>
    show (lm_dw1 _ (lm_dw' B t)).1 ≤ 256
    unfold lm_dw1
    by_cases c : (lm_dw' B t).1 < 256 ∧ B (3 * t) + 256 * B (3 * t + 1) + 65536 * (B (3 * t + 2) % 128) < 8380417
    · rw [if_pos c]; show (lm_dw' B t).1 + 1 ≤ 256; omega
    · rw [if_neg c]; exact ih
theorem lm_dw_st {B : Nat → Nat} {t : Nat} (h : ¬ (lm_dw' B t).1 < 256) : ∀ k, lm_dw' B (t + k) = lm_dw' B t := by
  intro k
  induction k with
  | zero => rfl
  | succ k ih =>
    show lm_dw1 _ (lm_dw' B (t + k)) = _
    unfold lm_dw1
    rw [ih, if_neg (fun g => h g.1)]
theorem lm_dw_lt {B : Nat → Nat} (t : Nat) : ∀ i, i < (lm_dw' B t).1 → (lm_dw' B t).2 i < 8380417 := by
  induction t with
  | zero => intro i hi; exact absurd hi (by show ¬ i < 0; omega)
  | succ t ih =>
    show ∀ i, i < (lm_dw1 _ (lm_dw' B t)).1 → (lm_dw1 _ (lm_dw' B t)).2 i < 8380417
    intro i
    unfold lm_dw1
    by_cases c : (lm_dw' B t).1 < 256 ∧ B (3 * t) + 256 * B (3 * t + 1) + 65536 * (B (3 * t + 2) % 128) < 8380417
    · rw [if_pos c]
      intro hi
      show (if i = (lm_dw' B t).1 then _ else (lm_dw' B t).2 i) < 8380417
      by_cases c2 : i = (lm_dw' B t).1
      · rw [if_pos c2]; exact c.2
      · rw [if_neg c2]
        have hi : i < (lm_dw' B t).1 + 1 := hi
        exact ih i (by omega)
    · rw [if_neg c]; exact ih i
theorem lm_hl2_dw {m : lm_MI} {p v : Nat} {s : Nat × (Nat → Nat)} (h : lm_hl2 m p s) (h1 : s.1 < 256 ∧ v < 8380417) : lm_hl2 (lm_u m p s.1 (Int32.ofNat v)) p (lm_dw1 v s) := by
  unfold lm_dw1
  rw [if_pos h1]
  intro i hi
  have hi : i < s.1 + 1 := hi
  show lm_u m p s.1 (Int32.ofNat v) p i = Int32.ofNat (if i = s.1 then v else s.2 i)
  by_cases c : i = s.1
  · rw [if_pos c, c, lm_u_eq]
  · rw [if_neg c, lm_u_ne (fun g => c g.2)]
    exact h i (by omega)
theorem lm_b8v (v : Int32) : lm_b8 v &&& Int32.ofInt 127 = Int32.ofNat (lm_yb v % 128) := by
  have h := lm_andm (a := lm_yb v) (k := 7) (by have := lm_yb_lt v; omega) (by decide)
  rw [← lm_b8u, Int32.and_assoc] at h
  exact h
theorem lm_lb32 {a b : Nat} (ha : a < 2147483648) (hb : b < 2147483648) : Int32.ofNat a ≤ Int32.ofNat b ↔ a ≤ b := by
  rw [Int32.le_iff_toInt_le, lm_oN, lm_oN, lm_iT0 (by omega) (by omega), lm_iT0 (by omega) (by omega)]
  omega
section LMBG
variable {a b : Nat} {σ : lm_S} {f g : lm_M lm_R} {r : Option (Except Nat lm_R × lm_S)}
theorem lm_geTb (ha : a < 2147483648) (hb : b < 2147483648) (h : b ≤ a) (k : f σ = r) : lm_if .ge (Int32.ofNat a) (Int32.ofNat b) f g σ = r := lm_iT (show Int32.ofNat b ≤ Int32.ofNat a from (lm_lb32 hb ha).mpr h) k
theorem lm_geFb (ha : a < 2147483648) (hb : b < 2147483648) (h : ¬ b ≤ a) (k : g σ = r) : lm_if .ge (Int32.ofNat a) (Int32.ofNat b) f g σ = r := lm_iF (show ¬ Int32.ofNat b ≤ Int32.ofNat a from fun q => h ((lm_lb32 hb ha).mp q)) k
end LMBG
section LMSB
variable {xs : List Int32} {sc : lm_H} {C : lm_CX} {d p q v a : Nat} {m m0 : lm_MI} {n n0 : lm_ML} {x : lm_H × Nat × Nat} {G : Nat → Int32}
theorem lm_l292t {t : Nat} {B : Nat → Nat} (hp : lm_ar p = some (0, 256)) (hp3 : p ≠ 188) (ht : t < 298) (hs : (lm_dw' B t).1 < 256) (hB : ∀ r, r < 3 → lm_yb (m 188 (t % 56 * 3 + r)) = B (3 * t + r)) (hv : lm_hl2 m p (lm_dw' B t)) : ∃ m', (∀ q, q ≠ p → m' q = m q) ∧ lm_hl2 m' p (lm_dw' B (t + 1)) ∧ ∀ R, lm_rn sc d lm_m292.2.2.2.2.1 (lm_reg lm_m292.2.2.2.2.2) (42, [(0, .ref 76), (1, .ref p), (2, .ref 5), (3, .int (Int32.ofNat (lm_dw' B (t + 1)).1)), (4, .int (Int32.ofNat (t + 1)))], []) (lm_w m' n x) = some R → lm_rn sc d lm_m292.2.2.2.2.1 (lm_reg lm_m292.2.2.2.2.2) (84, [(0, .ref 76), (1, .ref p), (2, .ref 5), (3, .int (Int32.ofNat (lm_dw' B t).1)), (4, .int (Int32.ofNat t)), (5, .int (Int32.ofNat (t % 56 * 3)))], []) (lm_w m n x) = some R := by
  have b0 := hB 0 (by decide)
  have b1 := hB 1 (by decide)
  have b2 := hB 2 (by decide)
  rw [Nat.add_zero, Nat.add_zero] at b0
  have l0 : B (3 * t) < 256 := by rw [← b0]; exact lm_yb_lt _
  have l1 : B (3 * t + 1) < 256 := by rw [← b1]; exact lm_yb_lt _
  have es : lm_dw' B (t + 1) = lm_dw1 (B (3 * t) + 256 * B (3 * t + 1) + 65536 * (B (3 * t + 2) % 128)) (lm_dw' B t) := rfl
  generalize lm_dw' B (t + 1) = s2 at *
  subst es
  generalize lm_dw' B t = s at *
  generalize eV : B (3 * t) + 256 * B (3 * t + 1) + 65536 * (B (3 * t + 2) % 128) = V at *
  have run : ∀ R, lm_if .ge (Int32.ofNat V) (Int32.ofNat 8380417) (lm_rn sc d lm_m292.2.2.2.2.1 (lm_reg lm_m292.2.2.2.2.2) (147, [(0, .ref 76), (1, .ref p), (2, .ref 5), (3, .int (Int32.ofNat s.1)), (4, .int (Int32.ofNat t))], [])) (lm_bind (lm_iast p (Int32.ofNat s.1) (Int32.ofNat V)) fun _ => lm_rn sc d lm_m292.2.2.2.2.1 (lm_reg lm_m292.2.2.2.2.2) (147, [(0, .ref 76), (1, .ref p), (2, .ref 5), (3, .int (Int32.ofNat s.1 + Int32.ofNat 1)), (4, .int (Int32.ofNat t))], [])) (lm_w m n x) = some R → lm_rn sc d lm_m292.2.2.2.2.1 (lm_reg lm_m292.2.2.2.2.2) (84, [(0, .ref 76), (1, .ref p), (2, .ref 5), (3, .int (Int32.ofNat s.1)), (4, .int (Int32.ofNat t)), (5, .int (Int32.ofNat (t % 56 * 3)))], []) (lm_w m n x) = some R := by
    intro R K
    refine lm_e292_84 ?_
    unfold lm_q292_84
    rw [lm_K1, lm_K2]
    simp only [lm_oo]
    repeat (first
    | ((with_reducible apply lm_sI); exact rfl)
    | ((with_reducible apply lm_sR); exact rfl)
    | ((with_reducible apply lm_sS); exact rfl; exact rfl)
    | ((with_reducible apply lm_sL); exact rfl)
    | ((with_reducible apply lm_sP); exact rfl; exact rfl)
    | ((with_reducible apply lm_sPL); exact rfl; exact rfl)
    | ((with_reducible apply lm_sAA); exact rfl; exact rfl)
    | ((with_reducible apply lm_sA); (first | exact rfl | assumption); omega)
    | ((with_reducible apply lm_sJ); (first | exact rfl | assumption); omega)
    | ((with_reducible apply lm_sB); (first | exact rfl | assumption); omega)
    | ((with_reducible apply lm_wA); (first | exact rfl | assumption); omega)
    | ((with_reducible apply lm_wJ); (first | exact rfl | assumption); omega)
    | ((with_reducible apply lm_wB); (first | exact rfl | assumption); omega)
    | ((with_reducible apply lm_sAl); (first | exact rfl | assumption); omega)
    | ((with_reducible apply lm_iW); decide))
    rw [lm_b8u, lm_b8u, lm_b8v, b0, b1, b2, lm_K256, show Int32.ofInt 65536 = Int32.ofNat 65536 from rfl, lm_om, lm_om, lm_oo, lm_oo, eV, show Int32.ofInt 8380417 = Int32.ofNat 8380417 from rfl, ← lm_oo s.1 1]
    exact K
  by_cases c : V < 8380417
  · have e1 : (lm_dw1 V s).1 = s.1 + 1 := by
      unfold lm_dw1
      rw [if_pos ⟨hs, c⟩]
    refine ⟨lm_u m p s.1 (Int32.ofNat V), fun q hq => lm_u_row hq, lm_hl2_dw hv ⟨hs, c⟩, fun R K => run R ?_⟩
    rw [e1] at K
    refine lm_geFb (by omega) (by omega) (by omega) ?_
    repeat (first
    | ((with_reducible apply lm_sI); exact rfl)
    | ((with_reducible apply lm_sR); exact rfl)
    | ((with_reducible apply lm_sS); exact rfl; exact rfl)
    | ((with_reducible apply lm_sL); exact rfl)
    | ((with_reducible apply lm_sP); exact rfl; exact rfl)
    | ((with_reducible apply lm_sPL); exact rfl; exact rfl)
    | ((with_reducible apply lm_sAA); exact rfl; exact rfl)
    | ((with_reducible apply lm_sA); (first | exact rfl | assumption); omega)
    | ((with_reducible apply lm_sJ); (first | exact rfl | assumption); omega)
    | ((with_reducible apply lm_sB); (first | exact rfl | assumption); omega)
    | ((with_reducible apply lm_wA); (first | exact rfl | assumption); omega)
    | ((with_reducible apply lm_wJ); (first | exact rfl | assumption); omega)
    | ((with_reducible apply lm_wB); (first | exact rfl | assumption); omega)
    | ((with_reducible apply lm_sAl); (first | exact rfl | assumption); omega)
    | ((with_reducible apply lm_iW); decide))
    refine lm_e292_147 ?_
    unfold lm_q292_147
    rw [lm_K1, lm_oo, lm_oo]
    exact K
  · have e1 : lm_dw1 V s = s := by
      unfold lm_dw1
      rw [if_neg (fun g => c g.2)]
    rw [e1]
    refine ⟨m, fun q hq => rfl, hv, fun R K => run R ?_⟩
    have l2 : V < 16777216 := by omega
    refine lm_geTb (by omega) (by omega) (by omega) (lm_e292_147 ?_)
    unfold lm_q292_147
    rw [lm_K1, lm_oo]
    exact K
def lm_I292 (C : lm_CX) (G : Nat → Int32) (p : Nat) (m0 : lm_MI) (n0 : lm_ML) (t : Nat) (m : lm_MI) (n : lm_ML) : Prop := (∀ q, (q < 5 ∨ 22 < q) → q ≠ 188 → q ≠ p → m q = m0 q) ∧ lm_fN m0 n0 m n ∧ lm_hl2 m p (lm_dw' (lm_B11 C G) t) ∧ lm_cQ m n C 11 G 34 ((t - 1) / 56) ∧ ∀ i, i < 168 → m 188 i = lm_Hm C 11 G 34 ((t - 1) / 56 * 168 + i)
theorem lm_l292s {t : Nat} (hC : lm_Cok xs C) (hp : lm_ar p = some (0, 256)) (hp2 : 22 < p) (hp3 : p ≠ 188) (ht : t < 298) (hs : (lm_dw' (lm_B11 C G) t).1 < 256) (h : lm_I292 C G p m0 n0 t m n) : ∃ m' n', lm_I292 C G p m0 n0 (t + 1) m' n' ∧ ∀ R, lm_rn (lm_sc xs) (d + 4) lm_m292.2.2.2.2.1 (lm_reg lm_m292.2.2.2.2.2) (42, [(0, .ref 76), (1, .ref p), (2, .ref 5), (3, .int (Int32.ofNat (lm_dw' (lm_B11 C G) (t + 1)).1)), (4, .int (Int32.ofNat (t + 1)))], []) (lm_w m' n' x) = some R → lm_rn (lm_sc xs) (d + 4) lm_m292.2.2.2.2.1 (lm_reg lm_m292.2.2.2.2.2) (42, [(0, .ref 76), (1, .ref p), (2, .ref 5), (3, .int (Int32.ofNat (lm_dw' (lm_B11 C G) t).1)), (4, .int (Int32.ofNat t))], []) (lm_w m n x) = some R := by
  obtain ⟨g1, g2, g3, g4, g5⟩ := h
  have fin : ∀ (m1 : lm_MI) (n1 : lm_ML), (∀ q, (q < 5 ∨ 22 < q) → q ≠ 188 → q ≠ p → m1 q = m0 q) → lm_fN m0 n0 m1 n1 → lm_hl2 m1 p (lm_dw' (lm_B11 C G) t) → lm_cQ m1 n1 C 11 G 34 (t / 56) → (∀ i, i < 168 → m1 188 i = lm_Hm C 11 G 34 (t / 56 * 168 + i)) → (∀ R, lm_rn (lm_sc xs) (d + 4) lm_m292.2.2.2.2.1 (lm_reg lm_m292.2.2.2.2.2) (84, [(0, .ref 76), (1, .ref p), (2, .ref 5), (3, .int (Int32.ofNat (lm_dw' (lm_B11 C G) t).1)), (4, .int (Int32.ofNat t)), (5, .int (Int32.ofNat (t % 56 * 3)))], []) (lm_w m1 n1 x) = some R → lm_rn (lm_sc xs) (d + 4) lm_m292.2.2.2.2.1 (lm_reg lm_m292.2.2.2.2.2) (42, [(0, .ref 76), (1, .ref p), (2, .ref 5), (3, .int (Int32.ofNat (lm_dw' (lm_B11 C G) t).1)), (4, .int (Int32.ofNat t))], []) (lm_w m n x) = some R) → ∃ m' n', lm_I292 C G p m0 n0 (t + 1) m' n' ∧ ∀ R, lm_rn (lm_sc xs) (d + 4) lm_m292.2.2.2.2.1 (lm_reg lm_m292.2.2.2.2.2) (42, [(0, .ref 76), (1, .ref p), (2, .ref 5), (3, .int (Int32.ofNat (lm_dw' (lm_B11 C G) (t + 1)).1)), (4, .int (Int32.ofNat (t + 1)))], []) (lm_w m' n' x) = some R → lm_rn (lm_sc xs) (d + 4) lm_m292.2.2.2.2.1 (lm_reg lm_m292.2.2.2.2.2) (42, [(0, .ref 76), (1, .ref p), (2, .ref 5), (3, .int (Int32.ofNat (lm_dw' (lm_B11 C G) t).1)), (4, .int (Int32.ofNat t))], []) (lm_w m n x) = some R := by
    intro m1 n1 a1 a2 a3 a4 a5 K1
    obtain ⟨m', f', h', k'⟩ := lm_l292t (sc := lm_sc xs) (d := d + 4) (n := n1) (x := x) (B := lm_B11 C G) hp hp3 ht hs (fun r hr => by
      unfold lm_B11
      rw [a5 _ (by omega), show t / 56 * 168 + (t % 56 * 3 + r) = 3 * t + r by omega]) a3
    refine ⟨m', n1, ⟨fun q h1 h2 h3 => (f' q h3).trans (a1 q h1 h2 h3), ?_, h', ?_, ?_⟩, fun R K => K1 R (k' R K)⟩
    · exact a2.tr (.of (f' 11 (by omega)) (f' 17 (by omega)))
    · rw [Nat.add_sub_cancel]
      exact ⟨by rw [f' 5 (by omega)]; exact a4.1, a4.2⟩
    · rw [Nat.add_sub_cancel, f' 188 (fun g => hp3 g.symm)]
      exact a5
  have hn := lm_dw_le (B := lm_B11 C G) t
  have eat : lm_rem (Int32.ofNat t) (Int32.ofInt 56) * Int32.ofInt 3 = Int32.ofNat (t % 56 * 3) := by
    rw [lm_K56, lm_K3, lm_orm (by omega) (by omega), lm_om]
  by_cases c : t % 56 = 0
  · by_cases c0 : t = 0
    · subst c0
      refine fin m n g1 g2 g3 g4 g5 fun R K => lm_e292_42 ?_
      unfold lm_q292_42
      rw [show Int32.ofInt 298 = Int32.ofNat 298 from rfl, lm_K256]
      refine lm_geF (by omega) (by omega) (by omega) (lm_geF (by omega) (by omega) (by omega) ?_)
      repeat (first
    | ((with_reducible apply lm_sI); exact rfl)
    | ((with_reducible apply lm_sR); exact rfl)
    | ((with_reducible apply lm_sS); exact rfl; exact rfl)
    | ((with_reducible apply lm_sL); exact rfl)
    | ((with_reducible apply lm_sP); exact rfl; exact rfl)
    | ((with_reducible apply lm_sPL); exact rfl; exact rfl)
    | ((with_reducible apply lm_sAA); exact rfl; exact rfl)
    | ((with_reducible apply lm_sA); (first | exact rfl | assumption); omega)
    | ((with_reducible apply lm_sJ); (first | exact rfl | assumption); omega)
    | ((with_reducible apply lm_sB); (first | exact rfl | assumption); omega)
    | ((with_reducible apply lm_wA); (first | exact rfl | assumption); omega)
    | ((with_reducible apply lm_wJ); (first | exact rfl | assumption); omega)
    | ((with_reducible apply lm_wB); (first | exact rfl | assumption); omega)
    | ((with_reducible apply lm_sAl); (first | exact rfl | assumption); omega)
    | ((with_reducible apply lm_iW); decide))
      rw [eat]
      refine lm_iF (fun g => g rfl) (lm_iT (show Int32.ofNat 0 ≤ 0 by decide) ?_)
      exact K
    · obtain ⟨n', k, f, s⟩ := lm_cGo (xs := xs) (d := d + 1) (x := x) (q := 188) (v := 640) hC (by decide) (by decide) (by decide) rfl (by decide) (by decide) (by decide) g4
      rw [lm_r11] at k
      refine fin (lm_fil m 188 0 168 (fun i => lm_Hm C 11 G 34 (((t - 1) / 56 + 1) * 168 + i))) n' (fun q h1 h2 h3 => (lm_fl_row h2).trans (g1 q h1 h2 h3)) ?_ ?_ ?_ ?_ fun R K => lm_e292_42 ?_
      · exact g2.tr (f.N.tr (.of (lm_fl_row (by decide)) (lm_fl_row (by decide))))
      · intro i hi
        rw [lm_fl_row hp3]
        exact g3 i hi
      · rw [show t / 56 = (t - 1) / 56 + 1 by omega]
        exact ⟨by rw [lm_fl_row (by decide)]; exact s.1, s.2⟩
      · intro i hi
        rw [lm_fl_in (by omega), show t / 56 = (t - 1) / 56 + 1 by omega]
      · unfold lm_q292_42
        rw [show Int32.ofInt 298 = Int32.ofNat 298 from rfl, lm_K256]
        refine lm_geF (by omega) (by omega) (by omega) (lm_geF (by omega) (by omega) (by omega) ?_)
        repeat (first
    | ((with_reducible apply lm_sI); exact rfl)
    | ((with_reducible apply lm_sR); exact rfl)
    | ((with_reducible apply lm_sS); exact rfl; exact rfl)
    | ((with_reducible apply lm_sL); exact rfl)
    | ((with_reducible apply lm_sP); exact rfl; exact rfl)
    | ((with_reducible apply lm_sPL); exact rfl; exact rfl)
    | ((with_reducible apply lm_sAA); exact rfl; exact rfl)
    | ((with_reducible apply lm_sA); (first | exact rfl | assumption); omega)
    | ((with_reducible apply lm_sJ); (first | exact rfl | assumption); omega)
    | ((with_reducible apply lm_sB); (first | exact rfl | assumption); omega)
    | ((with_reducible apply lm_wA); (first | exact rfl | assumption); omega)
    | ((with_reducible apply lm_wJ); (first | exact rfl | assumption); omega)
    | ((with_reducible apply lm_wB); (first | exact rfl | assumption); omega)
    | ((with_reducible apply lm_sAl); (first | exact rfl | assumption); omega)
    | ((with_reducible apply lm_iW); decide))
        rw [eat, c]
        refine lm_iF (fun g => g rfl) (lm_iF (fun g => c0 ?_) ?_)
        · have := (lm_le32 (a := t) (b := 0) (by omega) (by omega)).mp g
          omega
        repeat (first
    | ((with_reducible apply lm_sI); exact rfl)
    | ((with_reducible apply lm_sR); exact rfl)
    | ((with_reducible apply lm_sS); exact rfl; exact rfl)
    | ((with_reducible apply lm_sL); exact rfl)
    | ((with_reducible apply lm_sP); exact rfl; exact rfl)
    | ((with_reducible apply lm_sPL); exact rfl; exact rfl)
    | ((with_reducible apply lm_sAA); exact rfl; exact rfl)
    | ((with_reducible apply lm_sA); (first | exact rfl | assumption); omega)
    | ((with_reducible apply lm_sJ); (first | exact rfl | assumption); omega)
    | ((with_reducible apply lm_sB); (first | exact rfl | assumption); omega)
    | ((with_reducible apply lm_wA); (first | exact rfl | assumption); omega)
    | ((with_reducible apply lm_wJ); (first | exact rfl | assumption); omega)
    | ((with_reducible apply lm_wB); (first | exact rfl | assumption); omega)
    | ((with_reducible apply lm_sAl); (first | exact rfl | assumption); omega)
    | ((with_reducible apply lm_iW); decide))
        refine lm_cV k ?_
        rw [c] at K
        exact K
  · refine fin m n g1 g2 g3 (by rw [show t / 56 = (t - 1) / 56 by omega]; exact g4) (by rw [show t / 56 = (t - 1) / 56 by omega]; exact g5) fun R K => lm_e292_42 ?_
    unfold lm_q292_42
    rw [show Int32.ofInt 298 = Int32.ofNat 298 from rfl, lm_K256]
    refine lm_geF (by omega) (by omega) (by omega) (lm_geF (by omega) (by omega) (by omega) ?_)
    repeat (first
    | ((with_reducible apply lm_sI); exact rfl)
    | ((with_reducible apply lm_sR); exact rfl)
    | ((with_reducible apply lm_sS); exact rfl; exact rfl)
    | ((with_reducible apply lm_sL); exact rfl)
    | ((with_reducible apply lm_sP); exact rfl; exact rfl)
    | ((with_reducible apply lm_sPL); exact rfl; exact rfl)
    | ((with_reducible apply lm_sAA); exact rfl; exact rfl)
    | ((with_reducible apply lm_sA); (first | exact rfl | assumption); omega)
    | ((with_reducible apply lm_sJ); (first | exact rfl | assumption); omega)
    | ((with_reducible apply lm_sB); (first | exact rfl | assumption); omega)
    | ((with_reducible apply lm_wA); (first | exact rfl | assumption); omega)
    | ((with_reducible apply lm_wJ); (first | exact rfl | assumption); omega)
    | ((with_reducible apply lm_wB); (first | exact rfl | assumption); omega)
    | ((with_reducible apply lm_sAl); (first | exact rfl | assumption); omega)
    | ((with_reducible apply lm_iW); decide))
    rw [eat]
    refine lm_iT (fun g => c ?_) ?_
    · have := (lm_eq32 (a := t % 56 * 3) (b := 0) (by omega) (by omega)).mp g
      omega
    exact K
theorem lm_l292 (hC : lm_Cok xs C) (hp : lm_ar p = some (0, 256)) (hp2 : 22 < p) (hp3 : p ≠ 188) : ∀ k t (m : lm_MI) (n : lm_ML), t + k = 298 → lm_I292 C G p m0 n0 t m n → ∃ m' n', (∀ q, (q < 5 ∨ 22 < q) → q ≠ 188 → q ≠ p → m' q = m0 q) ∧ lm_fN m0 n0 m' n' ∧ lm_hl2 m' p (lm_dw' (lm_B11 C G) 298) ∧ ∀ R, lm_rn (lm_sc xs) (d + 4) lm_m292.2.2.2.2.1 (lm_reg lm_m292.2.2.2.2.2) (153, [(3, .int (Int32.ofNat (lm_dw' (lm_B11 C G) 298).1))], []) (lm_w m' n' x) = some R → lm_rn (lm_sc xs) (d + 4) lm_m292.2.2.2.2.1 (lm_reg lm_m292.2.2.2.2.2) (42, [(0, .ref 76), (1, .ref p), (2, .ref 5), (3, .int (Int32.ofNat (lm_dw' (lm_B11 C G) t).1)), (4, .int (Int32.ofNat t))], []) (lm_w m n x) = some R := by
  intro k
  induction k with
  | zero =>
    intro t m n ht h
    have e : t = 298 := ht
    subst e
    refine ⟨m, n, h.1, h.2.1, h.2.2.1, fun R K => lm_e292_42 ?_⟩
    unfold lm_q292_42
    rw [show Int32.ofInt 298 = Int32.ofNat 298 from rfl]
    exact lm_geT (by omega) (by omega) (by omega) K
  | succ k ih =>
    intro t m n ht h
    have hn := lm_dw_le (B := lm_B11 C G) t
    by_cases c : (lm_dw' (lm_B11 C G) t).1 < 256
    · obtain ⟨m1, n1, h1, k1⟩ := lm_l292s (x := x) (d := d) hC hp hp2 hp3 (by omega) c h
      obtain ⟨m2, n2, a1, a2, a3, a4⟩ := ih (t + 1) m1 n1 (by omega) h1
      exact ⟨m2, n2, a1, a2, a3, fun R K => k1 R (a4 R K)⟩
    · have e : lm_dw' (lm_B11 C G) 298 = lm_dw' (lm_B11 C G) t := by
        rw [← ht]
        exact lm_dw_st c _
      rw [e]
      refine ⟨m, n, h.1, h.2.1, h.2.2.1, fun R K => lm_e292_42 ?_⟩
      unfold lm_q292_42
      rw [show Int32.ofInt 298 = Int32.ofNat 298 from rfl, lm_K256]
      exact lm_geF (by omega) (by omega) (by omega) (lm_geT (by omega) (by omega) (by omega) K)
/-- sample of the class -/
theorem lm_u292 (hC : lm_Cok xs C) (hr : ln_rt m) (hp : lm_ar p = some (0, 256)) (hp2 : 22 < p) (hp3 : p ≠ 188) (hG : ∀ t, t < 34 → lm_b8 (m 190 t) = G t) : ∃ m' n', (∀ q, (q < 5 ∨ 22 < q) → q ≠ 188 → q ≠ p → m' q = m q) ∧ lm_fN m n m' n' ∧ lm_hl2 m' p (lm_dw' (lm_B11 C G) 298) ∧ ((lm_dw' (lm_B11 C G) 298).1 = 256 → lm_cal (lm_sc xs) (d + 5) 292 [.ref 76, .ref p] (lm_w m n x) = some (.ok none, lm_w m' n' x)) ∧ ((lm_dw' (lm_B11 C G) 298).1 ≠ 256 → lm_rom x → lm_cal (lm_sc xs) (d + 5) 292 [.ref 76, .ref p] (lm_w m n x) = some (.error (lm_xp x), lm_w m' n' (lm_xx 15 x))) := by
  obtain ⟨m1, n1, k1, s1, f1⟩ := lm_cSo (xs := xs) (d := d + 2) (x := x) (m := m) (n := n) (k := 11) (G := G) hC hr (by decide) (by decide)
  obtain ⟨m2, n2, k2, s2, f2⟩ := lm_cA (xs := xs) (d := d) (x := x) (k := 11) (q := 190) (v := 66) (a := 0) (l := 34) (L := 0) (G := G) hC (by decide) (by decide) (by decide) rfl (by decide) (by decide) (fun t ht => by
    rw [f1.1 190 (by decide), Nat.zero_add]
    exact hG t ht) s1
  rw [Nat.zero_add] at s2
  obtain ⟨m3, n3, k3, f3, q3⟩ := lm_cFq (xs := xs) (d := d) (x := x) (q := 188) (v := 640) hC (by decide) (by decide) (by decide) rfl (by decide) (by decide) s2
  rw [lm_r11] at k3
  have fm : ∀ q, (q < 5 ∨ 22 < q) → m3 q = m q := fun q h1 => by rw [f3.1 q h1, f2.1 q h1, f1.1 q h1]
  obtain ⟨m4, n4, a1, a2, a3, a4⟩ := lm_l292 (xs := xs) (d := d) (x := x) (m0 := m) (n0 := n) (G := G) hC hp hp2 hp3 298 0 (lm_fil m3 188 0 168 (fun i => lm_Hm C 11 G 34 i)) n3 (by omega) ⟨fun q h1 h2 h3 => (lm_fl_row h2).trans (fm q h1), f1.N.tr (f2.N.tr (f3.N.tr (.of (lm_fl_row (by decide)) (lm_fl_row (by decide))))), fun i hi => absurd hi (by show ¬ i < 0; omega), ⟨by rw [lm_fl_row (by decide)]; exact q3.1, q3.2⟩, fun i hi => by rw [lm_fl_in (by omega), show (0 - 1) / 56 * 168 + i = i by omega]⟩
  have start : ∀ R, lm_rn (lm_sc xs) (d + 4) lm_m292.2.2.2.2.1 (lm_reg lm_m292.2.2.2.2.2) (153, [(3, .int (Int32.ofNat (lm_dw' (lm_B11 C G) 298).1))], []) (lm_w m4 n4 x) = some R → lm_cal (lm_sc xs) (d + 5) 292 [.ref 76, .ref p] (lm_w m n x) = some R := by
    intro R K
    refine lm_cal_of (Y := lm_m292) rfl rfl (lm_e292_0 ?_)
    unfold lm_q292_0
    rw [lm_K11, lm_K0, lm_K34, lm_K168]
    repeat (first
    | ((with_reducible apply lm_sI); exact rfl)
    | ((with_reducible apply lm_sR); exact rfl)
    | ((with_reducible apply lm_sS); exact rfl; exact rfl)
    | ((with_reducible apply lm_sL); exact rfl)
    | ((with_reducible apply lm_sP); exact rfl; exact rfl)
    | ((with_reducible apply lm_sPL); exact rfl; exact rfl)
    | ((with_reducible apply lm_sAA); exact rfl; exact rfl)
    | ((with_reducible apply lm_sA); (first | exact rfl | assumption); omega)
    | ((with_reducible apply lm_sJ); (first | exact rfl | assumption); omega)
    | ((with_reducible apply lm_sB); (first | exact rfl | assumption); omega)
    | ((with_reducible apply lm_wA); (first | exact rfl | assumption); omega)
    | ((with_reducible apply lm_wJ); (first | exact rfl | assumption); omega)
    | ((with_reducible apply lm_wB); (first | exact rfl | assumption); omega)
    | ((with_reducible apply lm_sAl); (first | exact rfl | assumption); omega)
    | ((with_reducible apply lm_iW); decide))
    refine lm_cV k1 ?_
    repeat (first
    | ((with_reducible apply lm_sI); exact rfl)
    | ((with_reducible apply lm_sR); exact rfl)
    | ((with_reducible apply lm_sS); exact rfl; exact rfl)
    | ((with_reducible apply lm_sL); exact rfl)
    | ((with_reducible apply lm_sP); exact rfl; exact rfl)
    | ((with_reducible apply lm_sPL); exact rfl; exact rfl)
    | ((with_reducible apply lm_sAA); exact rfl; exact rfl)
    | ((with_reducible apply lm_sA); (first | exact rfl | assumption); omega)
    | ((with_reducible apply lm_sJ); (first | exact rfl | assumption); omega)
    | ((with_reducible apply lm_sB); (first | exact rfl | assumption); omega)
    | ((with_reducible apply lm_wA); (first | exact rfl | assumption); omega)
    | ((with_reducible apply lm_wJ); (first | exact rfl | assumption); omega)
    | ((with_reducible apply lm_wB); (first | exact rfl | assumption); omega)
    | ((with_reducible apply lm_sAl); (first | exact rfl | assumption); omega)
    | ((with_reducible apply lm_iW); decide))
    refine lm_cV k2 ?_
    repeat (first
    | ((with_reducible apply lm_sI); exact rfl)
    | ((with_reducible apply lm_sR); exact rfl)
    | ((with_reducible apply lm_sS); exact rfl; exact rfl)
    | ((with_reducible apply lm_sL); exact rfl)
    | ((with_reducible apply lm_sP); exact rfl; exact rfl)
    | ((with_reducible apply lm_sPL); exact rfl; exact rfl)
    | ((with_reducible apply lm_sAA); exact rfl; exact rfl)
    | ((with_reducible apply lm_sA); (first | exact rfl | assumption); omega)
    | ((with_reducible apply lm_sJ); (first | exact rfl | assumption); omega)
    | ((with_reducible apply lm_sB); (first | exact rfl | assumption); omega)
    | ((with_reducible apply lm_wA); (first | exact rfl | assumption); omega)
    | ((with_reducible apply lm_wJ); (first | exact rfl | assumption); omega)
    | ((with_reducible apply lm_wB); (first | exact rfl | assumption); omega)
    | ((with_reducible apply lm_sAl); (first | exact rfl | assumption); omega)
    | ((with_reducible apply lm_iW); decide))
    refine lm_cV k3 ?_
    exact a4 R K
  have hn := lm_dw_le (B := lm_B11 C G) 298
  refine ⟨m4, n4, a1, a2, a3, fun h => start _ (lm_e292_153 ?_), fun h hx => ?_⟩
  · unfold lm_q292_153
    rw [h, lm_K256]
    exact lm_geT (by decide) (by decide) (by decide) rfl
  · have key : lm_rn (lm_sc xs) (d + 4) lm_m292.2.2.2.2.1 (lm_reg lm_m292.2.2.2.2.2) (153, [(3, .int (Int32.ofNat (lm_dw' (lm_B11 C G) 298).1))], []) (lm_w m4 n4 x) = some (.error (lm_xp x), lm_w m4 n4 (lm_xx 15 x)) := by
      refine lm_e292_153 ?_
      unfold lm_q292_153
      rw [lm_K256]
      exact lm_geF (by omega) (by omega) (by omega) (lm_wT hx)
    exact start _ key
end LMSB
