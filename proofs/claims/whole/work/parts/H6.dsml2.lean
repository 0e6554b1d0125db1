/-! ===== Dsa: sampleSmall of the class, whole ===== -/
section LMSF
variable {xs : List Int32} {sc : lm_H} {C : lm_CX} {d p q v a s : Nat} {m m0 : lm_MI} {n n0 : lm_ML} {x : lm_H × Nat × Nat} {G : Nat → Int32} {w : Int32}
def lm_I233 (C : lm_CX) (G : Nat → Int32) (e p : Nat) (m0 : lm_MI) (n0 : lm_ML) (t : Nat) (m : lm_MI) (n : lm_ML) : Prop := (∀ q, (q < 5 ∨ 22 < q) → q ≠ 188 → q ≠ p → m q = m0 q) ∧ lm_fN m0 n0 m n ∧ lm_hl3 m p (lm_s4 e (lm_B12 C G) t) ∧ lm_cQ m n C 12 G 66 ((t - 1) / 272) ∧ ∀ i, i < 136 → m 188 i = lm_Hm C 12 G 66 ((t - 1) / 272 * 136 + i)
theorem lm_l233s {t : Nat} (hC : lm_Cok xs C) (hs : s ≤ 2) (h17 : m0 76 17 = Int32.ofNat s) (hp : lm_ar p = some (0, 256)) (hp2 : 76 < p) (hp3 : p ≠ 188) (ht : t < 962) (hst : (lm_s4 (lm_de s) (lm_B12 C G) t).1 < 256) (h : lm_I233 C G (lm_de s) p m0 n0 t m n) : ∃ m' n', lm_I233 C G (lm_de s) p m0 n0 (t + 1) m' n' ∧ ∀ R, lm_rn (lm_sc xs) (d + 4) lm_m233.2.2.2.2.1 (lm_reg lm_m233.2.2.2.2.2) (80, [(0, .ref 76), (1, .ref p), (3, .ref 5), (4, .int (Int32.ofNat (lm_s4 (lm_de s) (lm_B12 C G) (t + 1)).1)), (5, .int (Int32.ofNat (t + 1)))], []) (lm_w m' n' x) = some R → lm_rn (lm_sc xs) (d + 4) lm_m233.2.2.2.2.1 (lm_reg lm_m233.2.2.2.2.2) (80, [(0, .ref 76), (1, .ref p), (3, .ref 5), (4, .int (Int32.ofNat (lm_s4 (lm_de s) (lm_B12 C G) t).1)), (5, .int (Int32.ofNat t))], []) (lm_w m n x) = some R := by
  obtain ⟨g1, g2, g3, g4, g5⟩ := h
  have fin : ∀ (m1 : lm_MI) (n1 : lm_ML), (∀ q, (q < 5 ∨ 22 < q) → q ≠ 188 → q ≠ p → m1 q = m0 q) → lm_fN m0 n0 m1 n1 → lm_hl3 m1 p (lm_s4 (lm_de s) (lm_B12 C G) t) → lm_cQ m1 n1 C 12 G 66 (t / 272) → (∀ i, i < 136 → m1 188 i = lm_Hm C 12 G 66 (t / 272 * 136 + i)) → (∀ R, lm_rn (lm_sc xs) (d + 4) lm_m233.2.2.2.2.1 (lm_reg lm_m233.2.2.2.2.2) (118, [(0, .ref 76), (1, .ref p), (3, .ref 5), (4, .int (Int32.ofNat (lm_s4 (lm_de s) (lm_B12 C G) t).1)), (5, .int (Int32.ofNat t))], []) (lm_w m1 n1 x) = some R → lm_rn (lm_sc xs) (d + 4) lm_m233.2.2.2.2.1 (lm_reg lm_m233.2.2.2.2.2) (80, [(0, .ref 76), (1, .ref p), (3, .ref 5), (4, .int (Int32.ofNat (lm_s4 (lm_de s) (lm_B12 C G) t).1)), (5, .int (Int32.ofNat t))], []) (lm_w m n x) = some R) → ∃ m' n', lm_I233 C G (lm_de s) p m0 n0 (t + 1) m' n' ∧ ∀ R, lm_rn (lm_sc xs) (d + 4) lm_m233.2.2.2.2.1 (lm_reg lm_m233.2.2.2.2.2) (80, [(0, .ref 76), (1, .ref p), (3, .ref 5), (4, .int (Int32.ofNat (lm_s4 (lm_de s) (lm_B12 C G) (t + 1)).1)), (5, .int (Int32.ofNat (t + 1)))], []) (lm_w m' n' x) = some R → lm_rn (lm_sc xs) (d + 4) lm_m233.2.2.2.2.1 (lm_reg lm_m233.2.2.2.2.2) (80, [(0, .ref 76), (1, .ref p), (3, .ref 5), (4, .int (Int32.ofNat (lm_s4 (lm_de s) (lm_B12 C G) t).1)), (5, .int (Int32.ofNat t))], []) (lm_w m n x) = some R := by
    intro m1 n1 a1 a2 a3 a4 a5 K1
    obtain ⟨m', f', h', k'⟩ := lm_l233t (xs := xs) (d := d + 4) (n := n1) (x := x) (B := lm_B12 C G) hs (by rw [a1 76 (by decide) (by decide) (by omega)]; exact h17) hp hp3 ht hst (by
      unfold lm_B12
      rw [a5 _ (by omega), show t / 272 * 136 + t / 2 % 136 = t / 2 by omega]) a3
    refine ⟨m', n1, ⟨fun q h1 h2 h3 => (f' q h3).trans (a1 q h1 h2 h3), ?_, h', ?_, ?_⟩, fun R K => K1 R (k' R K)⟩
    · exact a2.tr (.of (f' 11 (by omega)) (f' 17 (by omega)))
    · rw [Nat.add_sub_cancel]
      exact ⟨by rw [f' 5 (by omega)]; exact a4.1, a4.2⟩
    · rw [Nat.add_sub_cancel, f' 188 (fun g => hp3 g.symm)]
      exact a5
  have hn := lm_s4_le (e := lm_de s) (B := lm_B12 C G) t
  have eat : lm_rem (Int32.ofNat t) (Int32.ofInt 272) = Int32.ofNat (t % 272) := by
    rw [show Int32.ofInt 272 = Int32.ofNat 272 from rfl, lm_orm (by omega) (by omega)]
  by_cases c : t % 272 = 0
  · by_cases c0 : t = 0
    · subst c0
      refine fin m n g1 g2 g3 g4 g5 fun R K => lm_e233_80 ?_
      unfold lm_q233_80
      rw [show Int32.ofInt 962 = Int32.ofNat 962 from rfl, lm_K256]
      refine lm_geF (by omega) (by omega) (by omega) (lm_geF (by omega) (by omega) (by omega) ?_)
      repeat (first
    | ((with_reducible apply lm_sI); exact rfl)
    | ((with_reducible apply lm_sR); exact rfl)
    | ((with_reducible apply lm_sS); exact rfl; exact rfl)
    | ((with_reducible apply lm_sL); exact rfl)
    | ((with_reducible apply lm_sP); exact rfl; exact rfl)
    | ((with_reducible apply lm_sPL); exact rfl; exact rfl)
    | ((with_reducible apply lm_sAA); exact rfl; exact rfl)
    | ((with_reducible apply lm_sA); (first | exact rfl | assumption); omega)
    | ((with_reducible apply lm_sJ); (first | exact rfl | assumption); omega)
    | ((with_reducible apply lm_sB); (first | exact rfl | assumption); omega)
    | ((with_reducible apply lm_wA); (first | exact rfl | assumption); omega)
    | ((with_reducible apply lm_wJ); (first | exact rfl | assumption); omega)
    | ((with_reducible apply lm_wB); (first | exact rfl | assumption); omega)
    | ((with_reducible apply lm_sAl); (first | exact rfl | assumption); omega)
    | ((with_reducible apply lm_iW); decide))
      rw [eat]
      refine lm_iF (fun g => g rfl) (lm_iT (show Int32.ofNat 0 ≤ 0 by decide) ?_)
      exact K
    · obtain ⟨n', k, f, s'⟩ := lm_cGo (xs := xs) (d := d + 1) (x := x) (q := 188) (v := 640) hC (by decide) (by decide) (by decide) rfl (by decide) (by decide) (by decide) g4
      rw [lm_r12] at k
      refine fin (lm_fil m 188 0 136 (fun i => lm_Hm C 12 G 66 (((t - 1) / 272 + 1) * 136 + i))) n' (fun q h1 h2 h3 => (lm_fl_row h2).trans (g1 q h1 h2 h3)) ?_ ?_ ?_ ?_ fun R K => lm_e233_80 ?_
      · exact g2.tr (f.N.tr (.of (lm_fl_row (by decide)) (lm_fl_row (by decide))))
      · intro i hi
        rw [lm_fl_row hp3]
        exact g3 i hi
      · rw [show t / 272 = (t - 1) / 272 + 1 by omega]
        exact ⟨by rw [lm_fl_row (by decide)]; exact s'.1, s'.2⟩
      · intro i hi
        rw [lm_fl_in (by omega), show t / 272 = (t - 1) / 272 + 1 by omega]
      · unfold lm_q233_80
        rw [show Int32.ofInt 962 = Int32.ofNat 962 from rfl, lm_K256]
        refine lm_geF (by omega) (by omega) (by omega) (lm_geF (by omega) (by omega) (by omega) ?_)
        repeat (first
    | ((with_reducible apply lm_sI); exact rfl)
    | ((with_reducible apply lm_sR); exact rfl)
    | ((with_reducible apply lm_sS); exact rfl; exact rfl)
    | ((with_reducible apply lm_sL); exact rfl)
    | ((with_reducible apply lm_sP); exact rfl; exact rfl)
    | ((with_reducible apply lm_sPL); exact rfl; exact rfl)
    | ((with_reducible apply lm_sAA); exact rfl; exact rfl)
    | ((with_reducible apply lm_sA); (first | exact rfl | assumption); omega)
    | ((with_reducible apply lm_sJ); (first | exact rfl | assumption); omega)
    | ((with_reducible apply lm_sB); (first | exact rfl | assumption); omega)
    | ((with_reducible apply lm_wA); (first | exact rfl | assumption); omega)
    | ((with_reducible apply lm_wJ); (first | exact rfl | assumption); omega)
    | ((with_reducible apply lm_wB); (first | exact rfl | assumption); omega)
    | ((with_reducible apply lm_sAl); (first | exact rfl | assumption); omega)
    | ((with_reducible apply lm_iW); decide))
        rw [eat, c]
        refine lm_iF (fun g => g rfl) (lm_iF (fun g => c0 ?_) ?_)
        · have := (lm_le32 (a := t) (b := 0) (by omega) (by omega)).mp g
          omega
        repeat (first
    | ((with_reducible apply lm_sI); exact rfl)
    | ((with_reducible apply lm_sR); exact rfl)
    | ((with_reducible apply lm_sS); exact rfl; exact rfl)
    | ((with_reducible apply lm_sL); exact rfl)
    | ((with_reducible apply lm_sP); exact rfl; exact rfl)
    | ((with_reducible apply lm_sPL); exact rfl; exact rfl)
    | ((with_reducible apply lm_sAA); exact rfl; exact rfl)
    | ((with_reducible apply lm_sA); (first | exact rfl | assumption); omega)
    | ((with_reducible apply lm_sJ); (first | exact rfl | assumption); omega)
    | ((with_reducible apply lm_sB); (first | exact rfl | assumption); omega)
    | ((with_reducible apply lm_wA); (first | exact rfl | assumption); omega)
    | ((with_reducible apply lm_wJ); (first | exact rfl | assumption); omega)
    | ((with_reducible apply lm_wB); (first | exact rfl | assumption); omega)
    | ((with_reducible apply lm_sAl); (first | exact rfl | assumption); omega)
    | ((with_reducible apply lm_iW); decide))
        exact lm_cV k K
  · refine fin m n g1 g2 g3 (by rw [show t / 272 = (t - 1) / 272 by omega]; exact g4) (by rw [show t / 272 = (t - 1) / 272 by omega]; exact g5) fun R K => lm_e233_80 ?_
    unfold lm_q233_80
    rw [show Int32.ofInt 962 = Int32.ofNat 962 from rfl, lm_K256]
    refine lm_geF (by omega) (by omega) (by omega) (lm_geF (by omega) (by omega) (by omega) ?_)
    repeat (first
    | ((with_reducible apply lm_sI); exact rfl)
    | ((with_reducible apply lm_sR); exact rfl)
    | ((with_reducible apply lm_sS); exact rfl; exact rfl)
    | ((with_reducible apply lm_sL); exact rfl)
    | ((with_reducible apply lm_sP); exact rfl; exact rfl)
    | ((with_reducible apply lm_sPL); exact rfl; exact rfl)
    | ((with_reducible apply lm_sAA); exact rfl; exact rfl)
    | ((with_reducible apply lm_sA); (first | exact rfl | assumption); omega)
    | ((with_reducible apply lm_sJ); (first | exact rfl | assumption); omega)
    | ((with_reducible apply lm_sB); (first | exact rfl | assumption); omega)
    | ((with_reducible apply lm_wA); (first | exact rfl | assumption); omega)
    | ((with_reducible apply lm_wJ); (first | exact rfl | assumption); omega)
    | ((with_reducible apply lm_wB); (first | exact rfl | assumption); omega)
    | ((with_reducible apply lm_sAl); (first | exact rfl | assumption); omega)
    | ((with_reducible apply lm_iW); decide))
    rw [eat]
    refine lm_iT (fun g => c ?_) ?_
    · have := (lm_eq32 (a := t % 272) (b := 0) (by omega) (by omega)).mp g
      omega
    exact K
theorem lm_l233 (hC : lm_Cok xs C) (hs : s ≤ 2) (h17 : m0 76 17 = Int32.ofNat s) (hp : lm_ar p = some (0, 256)) (hp2 : 76 < p) (hp3 : p ≠ 188) : ∀ k t (m : lm_MI) (n : lm_ML), t + k = 962 → lm_I233 C G (lm_de s) p m0 n0 t m n → ∃ m' n', (∀ q, (q < 5 ∨ 22 < q) → q ≠ 188 → q ≠ p → m' q = m0 q) ∧ lm_fN m0 n0 m' n' ∧ lm_hl3 m' p (lm_s4 (lm_de s) (lm_B12 C G) 962) ∧ ∀ R, lm_rn (lm_sc xs) (d + 4) lm_m233.2.2.2.2.1 (lm_reg lm_m233.2.2.2.2.2) (205, [(4, .int (Int32.ofNat (lm_s4 (lm_de s) (lm_B12 C G) 962).1))], []) (lm_w m' n' x) = some R → lm_rn (lm_sc xs) (d + 4) lm_m233.2.2.2.2.1 (lm_reg lm_m233.2.2.2.2.2) (80, [(0, .ref 76), (1, .ref p), (3, .ref 5), (4, .int (Int32.ofNat (lm_s4 (lm_de s) (lm_B12 C G) t).1)), (5, .int (Int32.ofNat t))], []) (lm_w m n x) = some R := by
  intro k
  induction k with
  | zero =>
    intro t m n ht h
    have e : t = 962 := ht
    subst e
    refine ⟨m, n, h.1, h.2.1, h.2.2.1, fun R K => lm_e233_80 ?_⟩
    unfold lm_q233_80
    rw [show Int32.ofInt 962 = Int32.ofNat 962 from rfl]
    exact lm_geT (by omega) (by omega) (by omega) K
  | succ k ih =>
    intro t m n ht h
    have hn := lm_s4_le (e := lm_de s) (B := lm_B12 C G) t
    by_cases c : (lm_s4 (lm_de s) (lm_B12 C G) t).1 < 256
    · obtain ⟨m1, n1, h1, k1⟩ := lm_l233s (x := x) (d := d) hC hs h17 hp hp2 hp3 (by omega) c h
      obtain ⟨m2, n2, a1, a2, a3, a4⟩ := ih (t + 1) m1 n1 (by omega) h1
      exact ⟨m2, n2, a1, a2, a3, fun R K => k1 R (a4 R K)⟩
    · have e : lm_s4 (lm_de s) (lm_B12 C G) 962 = lm_s4 (lm_de s) (lm_B12 C G) t := by
        rw [← ht]
        exact lm_s4_st c _
      rw [e]
      refine ⟨m, n, h.1, h.2.1, h.2.2.1, fun R K => lm_e233_80 ?_⟩
      unfold lm_q233_80
      rw [show Int32.ofInt 962 = Int32.ofNat 962 from rfl, lm_K256]
      exact lm_geF (by omega) (by omega) (by omega) (lm_geT (by omega) (by omega) (by omega) K)
/-- sampleSmall of the class -/
theorem lm_u233 (hC : lm_Cok xs C) (hr : ln_rt m) (hs : s ≤ 2) (h17 : m 76 17 = Int32.ofNat s) (hp : lm_ar p = some (0, 256)) (hp2 : 76 < p) (hp3 : p ≠ 188 ∧ p ≠ 190) : ∃ m' n', (∀ q, (q < 5 ∨ 22 < q) → q ≠ 188 → q ≠ 190 → q ≠ p → m' q = m q) ∧ lm_fN m n m' n' ∧ lm_hl3 m' p (lm_s4 (lm_de s) (lm_B12 C (ln_g6 (m 189) 32 w)) 962) ∧ ((lm_s4 (lm_de s) (lm_B12 C (ln_g6 (m 189) 32 w)) 962).1 = 256 → lm_cal (lm_sc xs) (d + 5) 233 [.ref 76, .ref p, .int w] (lm_w m n x) = some (.ok none, lm_w m' n' x)) ∧ ((lm_s4 (lm_de s) (lm_B12 C (ln_g6 (m 189) 32 w)) 962).1 ≠ 256 → lm_rom x → lm_cal (lm_sc xs) (d + 5) 233 [.ref 76, .ref p, .int w] (lm_w m n x) = some (.error (lm_xp x), lm_w m' n' (lm_xx 15 x))) := by
  generalize eM : lm_u (lm_u (lm_cp m 190 0 189 32 64) 190 64 (lm_b8 w)) 190 65 (lm_b8 (w >>> ((Int32.ofInt 8) &&& 31))) = M
  have rM : ∀ q, q ≠ 190 → M q = m q := fun q hq => by rw [← eM, lm_u_row hq, lm_u_row hq, lm_cp_row hq]
  have hrM : ln_rt M := ⟨by rw [rM 11 (by decide)]; exact hr.1, by rw [rM 17 (by decide)]; exact hr.2⟩
  have gM : ∀ t, t < 66 → lm_b8 (M 190 t) = ln_g6 (m 189) 32 w t := fun t ht => by
    unfold ln_g6
    by_cases c : t < 64
    · rw [if_pos c, ← eM, lm_u_ne (by omega), lm_u_ne (by omega), lm_rc, if_pos ⟨rfl, by omega, by omega⟩, Nat.sub_zero, Nat.add_comm t 32]
    · rw [if_neg c]
      by_cases c2 : t = 64
      · subst c2
        rw [if_pos rfl, ← eM, lm_u_ne (by omega), lm_u_eq, lm_b8b8]
      · rw [if_neg c2, ← eM, show t = 65 by omega, lm_u_eq, lm_b8b8]
  obtain ⟨m1, n1, k1, s1, f1⟩ := lm_cSo (xs := xs) (d := d + 2) (x := x) (m := M) (n := n) (k := 12) (G := ln_g6 (m 189) 32 w) hC hrM (by decide) (by decide)
  obtain ⟨m2, n2, k2, s2, f2⟩ := lm_cA (xs := xs) (d := d) (x := x) (k := 12) (q := 190) (v := 66) (a := 0) (l := 66) (L := 0) (G := ln_g6 (m 189) 32 w) hC (by decide) (by decide) (by decide) rfl (by decide) (by decide) (fun t ht => by
    rw [f1.1 190 (by decide), Nat.zero_add]
    exact gM t ht) s1
  rw [Nat.zero_add] at s2
  obtain ⟨m3, n3, k3, f3, q3⟩ := lm_cFq (xs := xs) (d := d) (x := x) (q := 188) (v := 640) hC (by decide) (by decide) (by decide) rfl (by decide) (by decide) s2
  rw [lm_r12] at k3
  have fm : ∀ q, (q < 5 ∨ 22 < q) → m3 q = M q := fun q h1 => by rw [f3.1 q h1, f2.1 q h1, f1.1 q h1]
  obtain ⟨m4, n4, a1, a2, a3, a4⟩ := lm_l233 (xs := xs) (d := d) (x := x) (m0 := M) (n0 := n) (G := ln_g6 (m 189) 32 w) hC hs (by rw [rM 76 (by decide)]; exact h17) hp hp2 hp3.1 962 0 (lm_fil m3 188 0 136 (fun i => lm_Hm C 12 (ln_g6 (m 189) 32 w) 66 i)) n3 (by omega) ⟨fun q h1 h2 h3 => (lm_fl_row h2).trans (fm q h1), f1.N.tr (f2.N.tr (f3.N.tr (.of (lm_fl_row (by decide)) (lm_fl_row (by decide))))), fun i hi => absurd hi (by show ¬ i < 0; omega), ⟨by rw [lm_fl_row (by decide)]; exact q3.1, q3.2⟩, fun i hi => by rw [lm_fl_in (by omega), show (0 - 1) / 272 * 136 + i = i by omega]⟩
  have start : ∀ R, lm_rn (lm_sc xs) (d + 4) lm_m233.2.2.2.2.1 (lm_reg lm_m233.2.2.2.2.2) (205, [(4, .int (Int32.ofNat (lm_s4 (lm_de s) (lm_B12 C (ln_g6 (m 189) 32 w)) 962).1))], []) (lm_w m4 n4 x) = some R → lm_cal (lm_sc xs) (d + 5) 233 [.ref 76, .ref p, .int w] (lm_w m n x) = some R := by
    intro R K
    refine lm_cal_of (Y := lm_m233) rfl rfl (lm_e233_0 ?_)
    unfold lm_q233_0
    rw [lm_K32, lm_K0, lm_K64, show Int32.ofInt 65 = Int32.ofNat 65 from rfl, lm_K12, show Int32.ofInt 66 = Int32.ofNat 66 from rfl, lm_K136]
    repeat (first
    | ((with_reducible apply lm_sI); exact rfl)
    | ((with_reducible apply lm_sR); exact rfl)
    | ((with_reducible apply lm_sS); exact rfl; exact rfl)
    | ((with_reducible apply lm_sL); exact rfl)
    | ((with_reducible apply lm_sP); exact rfl; exact rfl)
    | ((with_reducible apply lm_sPL); exact rfl; exact rfl)
    | ((with_reducible apply lm_sAA); exact rfl; exact rfl)
    | ((with_reducible apply lm_sA); (first | exact rfl | assumption); omega)
    | ((with_reducible apply lm_sJ); (first | exact rfl | assumption); omega)
    | ((with_reducible apply lm_sB); (first | exact rfl | assumption); omega)
    | ((with_reducible apply lm_wA); (first | exact rfl | assumption); omega)
    | ((with_reducible apply lm_wJ); (first | exact rfl | assumption); omega)
    | ((with_reducible apply lm_wB); (first | exact rfl | assumption); omega)
    | ((with_reducible apply lm_sAl); (first | exact rfl | assumption); omega)
    | ((with_reducible apply lm_iW); decide))
    refine lm_sCp (u := 1) rfl rfl (Or.inr rfl) (by decide) (by decide) ?_
    repeat (first
    | ((with_reducible apply lm_sI); exact rfl)
    | ((with_reducible apply lm_sR); exact rfl)
    | ((with_reducible apply lm_sS); exact rfl; exact rfl)
    | ((with_reducible apply lm_sL); exact rfl)
    | ((with_reducible apply lm_sP); exact rfl; exact rfl)
    | ((with_reducible apply lm_sPL); exact rfl; exact rfl)
    | ((with_reducible apply lm_sAA); exact rfl; exact rfl)
    | ((with_reducible apply lm_sA); (first | exact rfl | assumption); omega)
    | ((with_reducible apply lm_sJ); (first | exact rfl | assumption); omega)
    | ((with_reducible apply lm_sB); (first | exact rfl | assumption); omega)
    | ((with_reducible apply lm_wA); (first | exact rfl | assumption); omega)
    | ((with_reducible apply lm_wJ); (first | exact rfl | assumption); omega)
    | ((with_reducible apply lm_wB); (first | exact rfl | assumption); omega)
    | ((with_reducible apply lm_sAl); (first | exact rfl | assumption); omega)
    | ((with_reducible apply lm_iW); decide))
    rw [eM]
    refine lm_cV k1 ?_
    repeat (first
    | ((with_reducible apply lm_sI); exact rfl)
    | ((with_reducible apply lm_sR); exact rfl)
    | ((with_reducible apply lm_sS); exact rfl; exact rfl)
    | ((with_reducible apply lm_sL); exact rfl)
    | ((with_reducible apply lm_sP); exact rfl; exact rfl)
    | ((with_reducible apply lm_sPL); exact rfl; exact rfl)
    | ((with_reducible apply lm_sAA); exact rfl; exact rfl)
    | ((with_reducible apply lm_sA); (first | exact rfl | assumption); omega)
    | ((with_reducible apply lm_sJ); (first | exact rfl | assumption); omega)
    | ((with_reducible apply lm_sB); (first | exact rfl | assumption); omega)
    | ((with_reducible apply lm_wA); (first | exact rfl | assumption); omega)
    | ((with_reducible apply lm_wJ); (first | exact rfl | assumption); omega)
    | ((with_reducible apply lm_wB); (first | exact rfl | assumption); omega)
    | ((with_reducible apply lm_sAl); (first | exact rfl | assumption); omega)
    | ((with_reducible apply lm_iW); decide))
    refine lm_cV k2 ?_
    repeat (first
    | ((with_reducible apply lm_sI); exact rfl)
    | ((with_reducible apply lm_sR); exact rfl)
    | ((with_reducible apply lm_sS); exact rfl; exact rfl)
    | ((with_reducible apply lm_sL); exact rfl)
    | ((with_reducible apply lm_sP); exact rfl; exact rfl)
    | ((with_reducible apply lm_sPL); exact rfl; exact rfl)
    | ((with_reducible apply lm_sAA); exact rfl; exact rfl)
    | ((with_reducible apply lm_sA); (first | exact rfl | assumption); omega)
    | ((with_reducible apply lm_sJ); (first | exact rfl | assumption); omega)
    | ((with_reducible apply lm_sB); (first | exact rfl | assumption); omega)
    | ((with_reducible apply lm_wA); (first | exact rfl | assumption); omega)
    | ((with_reducible apply lm_wJ); (first | exact rfl | assumption); omega)
    | ((with_reducible apply lm_wB); (first | exact rfl | assumption); omega)
    | ((with_reducible apply lm_sAl); (first | exact rfl | assumption); omega)
    | ((with_reducible apply lm_iW); decide))
    refine lm_cV k3 ?_
    exact a4 R K
  have hn := lm_s4_le (e := lm_de s) (B := lm_B12 C (ln_g6 (m 189) 32 w)) 962
  refine ⟨m4, n4, fun q h1 h2 h3 h4 => (a1 q h1 h2 h4).trans (rM q h3), (lm_fN.of (rM 11 (by decide)) (rM 17 (by decide))).tr a2, a3, fun h => start _ (lm_e233_205 ?_), fun h hx => ?_⟩
  · unfold lm_q233_205
    rw [h, lm_K256]
    exact lm_geT (by decide) (by decide) (by decide) rfl
  · have key : lm_rn (lm_sc xs) (d + 4) lm_m233.2.2.2.2.1 (lm_reg lm_m233.2.2.2.2.2) (205, [(4, .int (Int32.ofNat (lm_s4 (lm_de s) (lm_B12 C (ln_g6 (m 189) 32 w)) 962).1))], []) (lm_w m4 n4 x) = some (.error (lm_xp x), lm_w m4 n4 (lm_xx 15 x)) := by
      refine lm_e233_205 ?_
      unfold lm_q233_205
      rw [lm_K256]
      exact lm_geF (by omega) (by omega) (by omega) (lm_wT hx)
    exact start _ key
end LMSF
