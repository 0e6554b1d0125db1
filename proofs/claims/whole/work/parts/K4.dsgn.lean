/-! ===== dsaSign of the class: what is hashed first; the secret; a mask ===== -/
/-- 64 bytes, then what is signed -/
def lm_mG (T : Nat → Int32) (a : Nat) (S : Nat → Int32) (t : Nat) : Int32 := if t < 64 then lm_b8 (T (a + t)) else S (t - 64)
/-- the seed of the masks: of the secret, of RANDOM, of the message's hash -/
def ln_rG (K R U : Nat → Int32) (rl t : Nat) : Int32 := if t < 32 then lm_b8 (K (32 + t)) else if t < 64 then (if t - 32 < rl then lm_b8 (R (t - 32)) else 0) else lm_b8 (U (t - 64))
/-- the secret's polynomials -/
def lm_zS (K : Nat → Int32) (s t c : Nat) : Int := (lm_de s : Int) - (ln_bv (ln_bt (fun j => K (128 + 32 * lm_xb s * t + j))) (c * lm_xb s) (lm_xb s) : Nat)
def lm_zT (K : Nat → Int32) (s i c : Nat) : Int := 4096 - (ln_bv (ln_bt (fun j => K (lm_xb1 s + 416 * i + j))) (c * 13) 13 : Nat)
/-- a mask -/
def lm_zY (C : lm_CX) (U : Nat → Int32) (s j c : Nat) : Int := (lm_dg1 s : Int) - (ln_bv (ln_bt (lm_Hm C 12 (ln_g6 U 0 (Int32.ofNat j)) 66)) (c * lm_dw s) (lm_dw s) : Nat)
theorem lm_bv_lt16 {S : Nat → Bool} {a b : Nat} (h : b ≤ 4) : ln_bv S a b < 16 := Nat.lt_of_lt_of_le lm_bv_lt (Nat.pow_le_pow_right (n := 2) (by decide) h)
theorem lm_zS_b {K : Nat → Int32} {s t c : Nat} (hs : s ≤ 2) : -16 ≤ lm_zS K s t c ∧ lm_zS K s t c ≤ 4 := by
  have hde := lm_de_2 hs
  have hxb := lm_xb_b s
  have := lm_bv_lt16 (S := ln_bt (fun j => K (128 + 32 * lm_xb s * t + j))) (a := c * lm_xb s) hxb.2
  unfold lm_zS
  omega
theorem lm_zT_b {K : Nat → Int32} {s i c : Nat} : -4096 ≤ lm_zT K s i c ∧ lm_zT K s i c ≤ 4096 := by
  have : ln_bv (ln_bt (fun j => K (lm_xb1 s + 416 * i + j))) (c * 13) 13 < 8192 := lm_bv_lt
  unfold lm_zT
  omega
theorem lm_zY_b {C : lm_CX} {U : Nat → Int32} {s j c : Nat} (hs : s ≤ 2) : -(lm_dg1 s : Int) < lm_zY C U s j c ∧ lm_zY C U s j c ≤ lm_dg1 s := by
  have hpar := lm_dpar s hs
  have : ln_bv (ln_bt (lm_Hm C 12 (ln_g6 U 0 (Int32.ofNat j)) 66)) (c * lm_dw s) (lm_dw s) < 2 ^ lm_dw s := lm_bv_lt
  unfold lm_zY
  omega
theorem lm_arM7 : ∀ t, t < 7 → lm_ar (161 + t) = some (0, 256) ∧ lm_ar (169 + t) = some (0, 256) := by decide
theorem lm_roM7 : ∀ t, t < 7 → ([162, 163, 164, 165, 166, 167, 168] : List Nat)[t]? = some (161 + t + 1) ∧ ([170, 171, 172, 173, 174, 175, 176] : List Nat)[t]? = some (169 + t + 1) := by decide
theorem lm_arW8 : ∀ t, t < 8 → lm_ar (177 + t) = some (0, 256) := by decide
theorem lm_roW8 : ∀ t, t < 8 → ([178, 179, 180, 181, 182, 183, 184, 185] : List Nat)[t]? = some (177 + t + 1) := by decide
section LMDV
variable {xs : List Int32} {sc : lm_H} {C : lm_CX} {d s q v a kk xl ml : Nat} {m : lm_MI} {n : lm_ML} {x : lm_H × Nat × Nat} {X : Nat → Int32}
/-- hashSigned -/
theorem lm_u242 (hC : lm_Cok xs C) (hr : ln_rt m) (hl : lm_spl kk xl ≤ 332) (hq : lm_ar q = some (1, v)) (gq : 22 < q) (hav : a + 64 ≤ v) (hv : v ≤ 70000) (h4 : m 42 4 = Int32.ofNat (lm_spl kk xl)) (h5 : lm_b1 (m 42 5) = lm_z (decide (kk ≤ 1))) (hm : m 32 1 = Int32.ofNat ml) (hml : ml ≤ 65536) (hP : ∀ t, t < lm_spl kk xl → lm_b8 (m 43 t) = lm_sp X xl kk (lm_sgd C kk (m 33) ml) t) : ∃ m' n', lm_cal (lm_sc xs) (d + 6) 242 [.ref 76, .ref q, .int (Int32.ofNat a), .ref 42] (lm_w m n x) = some (.ok none, lm_w m' n' x) ∧ (∀ r, (r < 5 ∨ 22 < r) → r ≠ 191 → m' r = m r) ∧ lm_fN m n m' n' ∧ ∀ i, i < 64 → m' 191 i = lm_Hm C 12 (lm_mG (m q) a (lm_sgn C kk X xl (m 33) ml)) (64 + lm_sgl kk xl ml) i := by
  obtain ⟨m1, n1, k1, s1, f1⟩ := lm_cS (xs := xs) (d := d + 2) (x := x) (m := m) (n := n) (k := 12) (G := lm_mG (m q) a (lm_sgn C kk X xl (m 33) ml)) hC hr (by decide) (by decide)
  obtain ⟨m2, n2, k2, s2, f2⟩ := lm_cA (xs := xs) (d := d + 1) (x := x) (k := 12) (q := q) (v := v) (a := a) (l := 64) (L := 0) (G := lm_mG (m q) a (lm_sgn C kk X xl (m 33) ml)) hC (by decide) (by decide) (by omega) hq hav hv (fun t ht => by
    rw [f1.1 q (by omega), Nat.zero_add, lm_mG, if_pos ht]) s1
  rw [Nat.zero_add] at s2
  have f12 := f1.tr f2
  obtain ⟨m3, n3, k3, s3, f3⟩ := lm_u295 (xs := xs) (d := d) (x := x) (m := m2) (n := n2) (k := 12) (kk := kk) (xl := xl) (ml := ml) (L := 64) (G := lm_mG (m q) a (lm_sgn C kk X xl (m 33) ml)) hC (by decide) (by decide) hl (by rw [f12.1 42 (by decide)]; exact h4) (by rw [f12.1 42 (by decide)]; exact h5) (by rw [f12.1 32 (by decide)]; exact hm) hml (fun t ht => by
    rw [f12.1 43 (by decide), hP t ht, lm_mG, if_neg (by omega), Nat.add_sub_cancel_left, lm_sgn, if_pos ht]) (fun _ t ht => by
    rw [f12.1 33 (by decide), lm_mG, if_neg (by omega), show 64 + lm_spl kk xl + t - 64 = lm_spl kk xl + t by omega, lm_sgn, if_neg (by omega), Nat.add_sub_cancel_left]) s2
  obtain ⟨m4, n4, k4, f4⟩ := lm_cF (xs := xs) (d := d + 1) (x := x) (k := 12) (q := 191) (v := 64) (a := 0) (l := 64) hC (by decide) (by decide) (by decide) rfl (by decide) (by decide) (fun h => absurd h (by decide)) s3
  have fC := f12.tr (f3.tr f4)
  refine ⟨lm_fil m4 191 0 (0 + 64) (fun i => lm_Hm C 12 (lm_mG (m q) a (lm_sgn C kk X xl (m 33) ml)) (64 + lm_sgl kk xl ml) (i - 0)), n4, ?_, fun r hr h => by rw [lm_fl_row h, fC.1 r hr], fC.N.tr (.of (lm_fl_row (by decide)) (lm_fl_row (by decide))), fun i hi => by rw [lm_fl_in (by omega), Nat.sub_zero]⟩
  refine lm_cal_of (Y := lm_m242) rfl rfl (lm_e242_0 ?_)
  unfold lm_q242_0
  rw [lm_K12, lm_K64, lm_K0]
  repeat (first
    | ((with_reducible apply lm_sI); exact rfl)
    | ((with_reducible apply lm_sR); exact rfl)
    | ((with_reducible apply lm_sS); exact rfl; exact rfl)
    | ((with_reducible apply lm_sL); exact rfl)
    | ((with_reducible apply lm_sP); exact rfl; exact rfl)
    | ((with_reducible apply lm_sPL); exact rfl; exact rfl)
    | ((with_reducible apply lm_sAA); exact rfl; exact rfl)
    | ((with_reducible apply lm_sA); (first | exact rfl | assumption); omega)
    | ((with_reducible apply lm_sJ); (first | exact rfl | assumption); omega)
    | ((with_reducible apply lm_sB); (first | exact rfl | assumption); omega)
    | ((with_reducible apply lm_wA); (first | exact rfl | assumption); omega)
    | ((with_reducible apply lm_wJ); (first | exact rfl | assumption); omega)
    | ((with_reducible apply lm_wB); (first | exact rfl | assumption); omega)
    | ((with_reducible apply lm_sAl); (first | exact rfl | assumption); omega)
    | ((with_reducible apply lm_iW); decide))
  refine lm_cR k1 ?_
  repeat (first
    | ((with_reducible apply lm_sI); exact rfl)
    | ((with_reducible apply lm_sR); exact rfl)
    | ((with_reducible apply lm_sS); exact rfl; exact rfl)
    | ((with_reducible apply lm_sL); exact rfl)
    | ((with_reducible apply lm_sP); exact rfl; exact rfl)
    | ((with_reducible apply lm_sPL); exact rfl; exact rfl)
    | ((with_reducible apply lm_sAA); exact rfl; exact rfl)
    | ((with_reducible apply lm_sA); (first | exact rfl | assumption); omega)
    | ((with_reducible apply lm_sJ); (first | exact rfl | assumption); omega)
    | ((with_reducible apply lm_sB); (first | exact rfl | assumption); omega)
    | ((with_reducible apply lm_wA); (first | exact rfl | assumption); omega)
    | ((with_reducible apply lm_wJ); (first | exact rfl | assumption); omega)
    | ((with_reducible apply lm_wB); (first | exact rfl | assumption); omega)
    | ((with_reducible apply lm_sAl); (first | exact rfl | assumption); omega)
    | ((with_reducible apply lm_iW); decide))
  refine lm_cV k2 ?_
  repeat (first
    | ((with_reducible apply lm_sI); exact rfl)
    | ((with_reducible apply lm_sR); exact rfl)
    | ((with_reducible apply lm_sS); exact rfl; exact rfl)
    | ((with_reducible apply lm_sL); exact rfl)
    | ((with_reducible apply lm_sP); exact rfl; exact rfl)
    | ((with_reducible apply lm_sPL); exact rfl; exact rfl)
    | ((with_reducible apply lm_sAA); exact rfl; exact rfl)
    | ((with_reducible apply lm_sA); (first | exact rfl | assumption); omega)
    | ((with_reducible apply lm_sJ); (first | exact rfl | assumption); omega)
    | ((with_reducible apply lm_sB); (first | exact rfl | assumption); omega)
    | ((with_reducible apply lm_wA); (first | exact rfl | assumption); omega)
    | ((with_reducible apply lm_wJ); (first | exact rfl | assumption); omega)
    | ((with_reducible apply lm_wB); (first | exact rfl | assumption); omega)
    | ((with_reducible apply lm_sAl); (first | exact rfl | assumption); omega)
    | ((with_reducible apply lm_iW); decide))
  refine lm_cV k3 ?_
  repeat (first
    | ((with_reducible apply lm_sI); exact rfl)
    | ((with_reducible apply lm_sR); exact rfl)
    | ((with_reducible apply lm_sS); exact rfl; exact rfl)
    | ((with_reducible apply lm_sL); exact rfl)
    | ((with_reducible apply lm_sP); exact rfl; exact rfl)
    | ((with_reducible apply lm_sPL); exact rfl; exact rfl)
    | ((with_reducible apply lm_sAA); exact rfl; exact rfl)
    | ((with_reducible apply lm_sA); (first | exact rfl | assumption); omega)
    | ((with_reducible apply lm_sJ); (first | exact rfl | assumption); omega)
    | ((with_reducible apply lm_sB); (first | exact rfl | assumption); omega)
    | ((with_reducible apply lm_wA); (first | exact rfl | assumption); omega)
    | ((with_reducible apply lm_wJ); (first | exact rfl | assumption); omega)
    | ((with_reducible apply lm_wB); (first | exact rfl | assumption); omega)
    | ((with_reducible apply lm_sAl); (first | exact rfl | assumption); omega)
    | ((with_reducible apply lm_iW); decide))
  exact lm_cV k4 rfl
/-- startMasks -/
theorem lm_u243 {rl : Nat} (hC : lm_Cok xs C) (hr : ln_rt m) (h1 : m 26 1 = Int32.ofNat rl) (hrl : rl ≤ 32) : ∃ m' n', lm_cal (lm_sc xs) (d + 5) 243 [.ref 76, .ref 31, .ref 26] (lm_w m n x) = some (.ok none, lm_w m' n' x) ∧ (∀ r, (r < 5 ∨ 22 < r) → r ≠ 188 → r ≠ 189 → m' r = m r) ∧ lm_fN m n m' n' ∧ ∀ i, i < 64 → m' 189 i = lm_Hm C 12 (ln_rG (m 31) (m 27) (m 191) rl) 128 i := by
  have c0 := lm_u134 (sc := lm_sc xs) (d := d + 2) (m := m) (n := n) (x := x) (q := 188) (k := 640) (a := 0) (c := 32) (v := Int32.ofNat 0) rfl (by decide) (by decide)
  generalize eM0 : lm_fil m 188 0 32 (fun _ => Int32.ofNat 0) = M0 at c0
  have r0 : ∀ r, r ≠ 188 → M0 r = m r := fun r hr => by rw [← eM0, lm_fl_row hr]
  have c205 := lm_u205 (sc := lm_sc xs) (d := d + 3) (a := rl) (b := 32) (by omega) (by omega) (σ := lm_w M0 n x)
  rw [Nat.min_eq_left hrl] at c205
  generalize eM1 : lm_cp M0 188 0 27 0 rl = M1
  have r1 : ∀ r, r ≠ 188 → M1 r = m r := fun r hr => by rw [← eM1, lm_cp_row hr, r0 r hr]
  have hr1 : ln_rt M1 := ⟨by rw [r1 11 (by decide)]; exact hr.1, by rw [r1 17 (by decide)]; exact hr.2⟩
  have v1 : ∀ t, t < 32 → lm_b8 (M1 188 t) = if t < rl then lm_b8 (m 27 t) else 0 := fun t ht => by
    rw [← eM1, lm_rc]
    by_cases c : t < rl
    · rw [if_pos ⟨rfl, by omega, by omega⟩, if_pos c, r0 27 (by decide), Nat.sub_zero, Nat.add_zero]
    · rw [if_neg (by omega), if_neg c, ← eM0, lm_fl_in (by omega)]
      decide
  generalize eG : ln_rG (m 31) (m 27) (m 191) rl = G
  have hG : ∀ t, G t = if t < 32 then lm_b8 (m 31 (32 + t)) else if t < 64 then (if t - 32 < rl then lm_b8 (m 27 (t - 32)) else 0) else lm_b8 (m 191 (t - 64)) := fun t => by rw [← eG, ln_rG]
  obtain ⟨m2, n2, k2, s2, f2⟩ := lm_cS (xs := xs) (d := d + 1) (x := x) (m := M1) (n := n) (k := 12) (G := G) hC hr1 (by decide) (by decide)
  obtain ⟨m3, n3, k3, s3, f3⟩ := lm_cA (xs := xs) (d := d) (x := x) (k := 12) (q := 31) (v := 65536) (a := 32) (l := 32) (L := 0) (G := G) hC (by decide) (by decide) (by decide) rfl (by decide) (by decide) (fun t ht => by
    rw [f2.1 31 (by decide), r1 31 (by decide), hG, Nat.zero_add, if_pos ht]) s2
  obtain ⟨m4, n4, k4, s4, f4⟩ := lm_cA (xs := xs) (d := d) (x := x) (k := 12) (q := 188) (v := 640) (a := 0) (l := 32) (L := 0 + 32) (G := G) hC (by decide) (by decide) (by decide) rfl (by decide) (by decide) (fun t ht => by
    rw [(f2.tr f3).1 188 (by decide), Nat.zero_add, v1 t ht, hG, if_neg (show ¬ 0 + 32 + t < 32 by omega), if_pos (show 0 + 32 + t < 64 by omega), show 0 + 32 + t - 32 = t by omega]) s3
  obtain ⟨m5, n5, k5, s5, f5⟩ := lm_cA (xs := xs) (d := d) (x := x) (k := 12) (q := 191) (v := 64) (a := 0) (l := 64) (L := 0 + 32 + 32) (G := G) hC (by decide) (by decide) (by decide) rfl (by decide) (by decide) (fun t ht => by
    rw [(f2.tr (f3.tr f4)).1 191 (by decide), r1 191 (by decide), Nat.zero_add, hG, if_neg (by omega), if_neg (by omega), show 0 + 32 + 32 + t - 64 = t by omega]) s4
  obtain ⟨m6, n6, k6, f6⟩ := lm_cF (xs := xs) (d := d) (x := x) (k := 12) (q := 189) (v := 128) (a := 0) (l := 64) hC (by decide) (by decide) (by decide) rfl (by decide) (by decide) (fun h => absurd h (by decide)) s5
  have fC := f2.tr (f3.tr (f4.tr (f5.tr f6)))
  refine ⟨lm_fil m6 189 0 (0 + 64) (fun i => lm_Hm C 12 G (0 + 32 + 32 + 64) (i - 0)), n6, ?_, fun r hr h h2 => by rw [lm_fl_row h2, fC.1 r hr, r1 r h], (lm_fN.of (r1 11 (by decide)) (r1 17 (by decide))).tr (fC.N.tr (.of (lm_fl_row (by decide)) (lm_fl_row (by decide)))), fun i hi => by rw [lm_fl_in (by omega), Nat.sub_zero]⟩
  refine lm_cal_of (Y := lm_m243) rfl rfl (lm_e243_0 ?_)
  unfold lm_q243_0
  rw [lm_K12, lm_K64, lm_K0, lm_K32]
  repeat (first
    | ((with_reducible apply lm_sI); exact rfl)
    | ((with_reducible apply lm_sR); exact rfl)
    | ((with_reducible apply lm_sS); exact rfl; exact rfl)
    | ((with_reducible apply lm_sL); exact rfl)
    | ((with_reducible apply lm_sP); exact rfl; exact rfl)
    | ((with_reducible apply lm_sPL); exact rfl; exact rfl)
    | ((with_reducible apply lm_sAA); exact rfl; exact rfl)
    | ((with_reducible apply lm_sA); (first | exact rfl | assumption); omega)
    | ((with_reducible apply lm_sJ); (first | exact rfl | assumption); omega)
    | ((with_reducible apply lm_sB); (first | exact rfl | assumption); omega)
    | ((with_reducible apply lm_wA); (first | exact rfl | assumption); omega)
    | ((with_reducible apply lm_wJ); (first | exact rfl | assumption); omega)
    | ((with_reducible apply lm_wB); (first | exact rfl | assumption); omega)
    | ((with_reducible apply lm_sAl); (first | exact rfl | assumption); omega)
    | ((with_reducible apply lm_iW); decide))
  refine lm_cV c0 ?_
  repeat (first
    | ((with_reducible apply lm_sI); exact rfl)
    | ((with_reducible apply lm_sR); exact rfl)
    | ((with_reducible apply lm_sS); exact rfl; exact rfl)
    | ((with_reducible apply lm_sL); exact rfl)
    | ((with_reducible apply lm_sP); exact rfl; exact rfl)
    | ((with_reducible apply lm_sPL); exact rfl; exact rfl)
    | ((with_reducible apply lm_sAA); exact rfl; exact rfl)
    | ((with_reducible apply lm_sA); (first | exact rfl | assumption); omega)
    | ((with_reducible apply lm_sJ); (first | exact rfl | assumption); omega)
    | ((with_reducible apply lm_sB); (first | exact rfl | assumption); omega)
    | ((with_reducible apply lm_wA); (first | exact rfl | assumption); omega)
    | ((with_reducible apply lm_wJ); (first | exact rfl | assumption); omega)
    | ((with_reducible apply lm_wB); (first | exact rfl | assumption); omega)
    | ((with_reducible apply lm_sAl); (first | exact rfl | assumption); omega)
    | ((with_reducible apply lm_iW); decide))
  simp only [Nat.reduceDiv, Nat.reduceMod]
  rw [r0 26 (by decide), h1]
  refine lm_cI c205 ?_
  refine lm_sCp (u := 1) rfl rfl (Or.inr rfl) (show 0 + rl ≤ 65536 by omega) (show 0 + rl ≤ 640 by omega) ?_
  rw [eM1]
  repeat (first
    | ((with_reducible apply lm_sI); exact rfl)
    | ((with_reducible apply lm_sR); exact rfl)
    | ((with_reducible apply lm_sS); exact rfl; exact rfl)
    | ((with_reducible apply lm_sL); exact rfl)
    | ((with_reducible apply lm_sP); exact rfl; exact rfl)
    | ((with_reducible apply lm_sPL); exact rfl; exact rfl)
    | ((with_reducible apply lm_sAA); exact rfl; exact rfl)
    | ((with_reducible apply lm_sA); (first | exact rfl | assumption); omega)
    | ((with_reducible apply lm_sJ); (first | exact rfl | assumption); omega)
    | ((with_reducible apply lm_sB); (first | exact rfl | assumption); omega)
    | ((with_reducible apply lm_wA); (first | exact rfl | assumption); omega)
    | ((with_reducible apply lm_wJ); (first | exact rfl | assumption); omega)
    | ((with_reducible apply lm_wB); (first | exact rfl | assumption); omega)
    | ((with_reducible apply lm_sAl); (first | exact rfl | assumption); omega)
    | ((with_reducible apply lm_iW); decide))
  refine lm_cR k2 ?_
  repeat (first
    | ((with_reducible apply lm_sI); exact rfl)
    | ((with_reducible apply lm_sR); exact rfl)
    | ((with_reducible apply lm_sS); exact rfl; exact rfl)
    | ((with_reducible apply lm_sL); exact rfl)
    | ((with_reducible apply lm_sP); exact rfl; exact rfl)
    | ((with_reducible apply lm_sPL); exact rfl; exact rfl)
    | ((with_reducible apply lm_sAA); exact rfl; exact rfl)
    | ((with_reducible apply lm_sA); (first | exact rfl | assumption); omega)
    | ((with_reducible apply lm_sJ); (first | exact rfl | assumption); omega)
    | ((with_reducible apply lm_sB); (first | exact rfl | assumption); omega)
    | ((with_reducible apply lm_wA); (first | exact rfl | assumption); omega)
    | ((with_reducible apply lm_wJ); (first | exact rfl | assumption); omega)
    | ((with_reducible apply lm_wB); (first | exact rfl | assumption); omega)
    | ((with_reducible apply lm_sAl); (first | exact rfl | assumption); omega)
    | ((with_reducible apply lm_iW); decide))
  refine lm_cV k3 ?_
  repeat (first
    | ((with_reducible apply lm_sI); exact rfl)
    | ((with_reducible apply lm_sR); exact rfl)
    | ((with_reducible apply lm_sS); exact rfl; exact rfl)
    | ((with_reducible apply lm_sL); exact rfl)
    | ((with_reducible apply lm_sP); exact rfl; exact rfl)
    | ((with_reducible apply lm_sPL); exact rfl; exact rfl)
    | ((with_reducible apply lm_sAA); exact rfl; exact rfl)
    | ((with_reducible apply lm_sA); (first | exact rfl | assumption); omega)
    | ((with_reducible apply lm_sJ); (first | exact rfl | assumption); omega)
    | ((with_reducible apply lm_sB); (first | exact rfl | assumption); omega)
    | ((with_reducible apply lm_wA); (first | exact rfl | assumption); omega)
    | ((with_reducible apply lm_wJ); (first | exact rfl | assumption); omega)
    | ((with_reducible apply lm_wB); (first | exact rfl | assumption); omega)
    | ((with_reducible apply lm_sAl); (first | exact rfl | assumption); omega)
    | ((with_reducible apply lm_iW); decide))
  refine lm_cV k4 ?_
  repeat (first
    | ((with_reducible apply lm_sI); exact rfl)
    | ((with_reducible apply lm_sR); exact rfl)
    | ((with_reducible apply lm_sS); exact rfl; exact rfl)
    | ((with_reducible apply lm_sL); exact rfl)
    | ((with_reducible apply lm_sP); exact rfl; exact rfl)
    | ((with_reducible apply lm_sPL); exact rfl; exact rfl)
    | ((with_reducible apply lm_sAA); exact rfl; exact rfl)
    | ((with_reducible apply lm_sA); (first | exact rfl | assumption); omega)
    | ((with_reducible apply lm_sJ); (first | exact rfl | assumption); omega)
    | ((with_reducible apply lm_sB); (first | exact rfl | assumption); omega)
    | ((with_reducible apply lm_wA); (first | exact rfl | assumption); omega)
    | ((with_reducible apply lm_wJ); (first | exact rfl | assumption); omega)
    | ((with_reducible apply lm_wB); (first | exact rfl | assumption); omega)
    | ((with_reducible apply lm_sAl); (first | exact rfl | assumption); omega)
    | ((with_reducible apply lm_iW); decide))
  refine lm_cV k5 ?_
  repeat (first
    | ((with_reducible apply lm_sI); exact rfl)
    | ((with_reducible apply lm_sR); exact rfl)
    | ((with_reducible apply lm_sS); exact rfl; exact rfl)
    | ((with_reducible apply lm_sL); exact rfl)
    | ((with_reducible apply lm_sP); exact rfl; exact rfl)
    | ((with_reducible apply lm_sPL); exact rfl; exact rfl)
    | ((with_reducible apply lm_sAA); exact rfl; exact rfl)
    | ((with_reducible apply lm_sA); (first | exact rfl | assumption); omega)
    | ((with_reducible apply lm_sJ); (first | exact rfl | assumption); omega)
    | ((with_reducible apply lm_sB); (first | exact rfl | assumption); omega)
    | ((with_reducible apply lm_wA); (first | exact rfl | assumption); omega)
    | ((with_reducible apply lm_wJ); (first | exact rfl | assumption); omega)
    | ((with_reducible apply lm_wB); (first | exact rfl | assumption); omega)
    | ((with_reducible apply lm_sAl); (first | exact rfl | assumption); omega)
    | ((with_reducible apply lm_iW); decide))
  exact lm_cV k6 rfl
/-- openSecret -/
def lm_pts (m : lm_MI) (p : Nat) (F : Nat → Int) : Prop := ∀ c, c < 256 → ln_cg 8380417 (m p c).toInt (ln_pt F c) ∧ -100000000 ≤ (m p c).toInt ∧ (m p c).toInt ≤ 100000000
theorem lm_u244 (hs : s ≤ 2) (h : lm_DC m s) (hz : ∀ k, k < 256 → m 77 k = Int32.ofInt (lm_zd k)) : ∃ m', lm_cal (lm_sc xs) (d + 4) 244 [.ref 76, .ref 31] (lm_w m n x) = some (.ok none, lm_w m' n x) ∧ (∀ r, (r < 136 ∨ 159 < r) → m' r = m r) ∧ (∀ t, t < lm_dl s + lm_dk s → lm_pts m' (136 + t) (lm_zS (m 31) s t)) ∧ ∀ i, i < lm_dk s → lm_pts m' (152 + i) (lm_zT (m 31) s i) := by
  have hkl := lm_dkl hs
  have hxb := lm_xb_b s
  have hde := lm_de_2 hs
  have hsz := lm_xsz s hs
  have e1 : lm_xb1 s = 128 + 32 * lm_xb s * (lm_dl s + lm_dk s) := by unfold lm_xb1; rfl
  have hat : ∀ t, t ≤ lm_dl s + lm_dk s → 32 * lm_xb s * t ≤ 128 * 15 := fun t ht => Nat.mul_le_mul (by omega) (by omega)
  obtain ⟨m1, n1, ⟨en, g1, g2⟩, k1⟩ := lm_lp (sc := lm_sc xs) (d := d + 3) (b := lm_dl s + lm_dk s) (hs := lm_m244.2.2.2.2.1) (code := lm_reg lm_m244.2.2.2.2.2) (x := x) (fr := fun t => (6, [(0, .ref 76), (1, .ref 31), (2, .int (Int32.ofNat (128 + 32 * lm_xb s * t))), (3, .int (Int32.ofNat t))], [])) (I := fun t m' n' => n' = n ∧ (∀ r, (r < 136 ∨ 150 < r) → m' r = m r) ∧ ∀ t', t' < t → lm_pts m' (136 + t') (lm_zS (m 31) s t')) (fun t ht m1 n1 ⟨en, g1, g2⟩ => by
    have ha := hat (t + 1) (by omega)
    rw [Nat.mul_succ] at ha
    have e76 : m1 76 = m 76 := g1 76 (by omega)
    have u234 := lm_u234 (xs := xs) (d := d + 2) (m := m1) (n := n1) (x := x) hs (by rw [e76]; exact h.1)
    obtain ⟨m2, c2, p2⟩ := lm_u252 (sc := lm_sc xs) (d := d + 1) (m := m1) (n := n1) (x := x) (q := 31) (v := 65536) (p := 136 + t) (a := 128 + 32 * lm_xb s * t) (bits := lm_xb s) (B := (lm_de s : Int)) (by omega) rfl (by decide) (lm_arS t (by omega)) (by omega) (by omega) (by omega) (by omega)
    rw [g1 31 (by omega)] at p2
    obtain ⟨m3, U, c3, p3, u3, b3⟩ := lm_u236 (sc := lm_sc xs) (d := d + 2) (m := m2) (n := n1) (x := x) (p := 136 + t) (G := lm_zS (m 31) s t) (B := 16) (lm_arS t (by omega)) (by omega) (fun k hk => by rw [p2.1 77 (by omega), g1 77 (by omega)]; exact hz k hk) (by decide) (fun c hc => by have := lm_zS_b (K := m 31) (t := t) (c := c) hs; omega) (fun c hc => by rw [p2.2 c hc]; rfl)
    have u234' := lm_u234 (xs := xs) (d := d + 2) (m := m3) (n := n1) (x := x) hs (by rw [p3.1 76 (by omega), p2.1 76 (by omega), e76]; exact h.1)
    refine ⟨m3, n1, ⟨en, fun r hr => by rw [p3.1 r (by omega), p2.1 r (by omega), g1 r hr], fun t' ht' c hc => ?_⟩, fun R K => lm_e244_6 ?_⟩
    · by_cases c0 : t' = t
      · subst c0
        have b := b3 c hc
        rw [p3.2 c hc, lm_iT0 (by omega) (by omega)]
        exact ⟨u3 c hc, by omega, by omega⟩
      · rw [p3.1 _ (by omega), p2.1 _ (by omega)]
        exact g2 t' (by omega) c hc
    · clear g2
      unfold lm_q244_6
      repeat (first
    | ((with_reducible apply lm_sI); exact rfl)
    | ((with_reducible apply lm_sR); exact rfl)
    | ((with_reducible apply lm_sS); exact rfl; exact rfl)
    | ((with_reducible apply lm_sL); exact rfl)
    | ((with_reducible apply lm_sP); exact rfl; exact rfl)
    | ((with_reducible apply lm_sPL); exact rfl; exact rfl)
    | ((with_reducible apply lm_sAA); exact rfl; exact rfl)
    | ((with_reducible apply lm_sA); (first | exact rfl | assumption); omega)
    | ((with_reducible apply lm_sJ); (first | exact rfl | assumption); omega)
    | ((with_reducible apply lm_sB); (first | exact rfl | assumption); omega)
    | ((with_reducible apply lm_wA); (first | exact rfl | assumption); omega)
    | ((with_reducible apply lm_wJ); (first | exact rfl | assumption); omega)
    | ((with_reducible apply lm_wB); (first | exact rfl | assumption); omega)
    | ((with_reducible apply lm_sAl); (first | exact rfl | assumption); omega)
    | ((with_reducible apply lm_iW); decide))
      simp only [Nat.reduceDiv, Nat.reduceMod]
      rw [e76, h.2.1, h.2.2, lm_oo]
      refine lm_geF (by omega) (by omega) (by omega) ?_
      repeat (first
    | ((with_reducible apply lm_sI); exact rfl)
    | ((with_reducible apply lm_sR); exact rfl)
    | ((with_reducible apply lm_sS); exact rfl; exact rfl)
    | ((with_reducible apply lm_sL); exact rfl)
    | ((with_reducible apply lm_sP); exact rfl; exact rfl)
    | ((with_reducible apply lm_sPL); exact rfl; exact rfl)
    | ((with_reducible apply lm_sAA); exact rfl; exact rfl)
    | ((with_reducible apply lm_sA); (first | exact rfl | assumption); omega)
    | ((with_reducible apply lm_sJ); (first | exact rfl | assumption); omega)
    | ((with_reducible apply lm_sB); (first | exact rfl | assumption); omega)
    | ((with_reducible apply lm_wA); (first | exact rfl | assumption); omega)
    | ((with_reducible apply lm_wJ); (first | exact rfl | assumption); omega)
    | ((with_reducible apply lm_wB); (first | exact rfl | assumption); omega)
    | ((with_reducible apply lm_sAl); (first | exact rfl | assumption); omega)
    | ((with_reducible apply lm_iW); decide))
      simp only [Nat.reduceDiv, Nat.reduceMod]
      rw [e76, h.1]
      refine lm_eta hs ?_
      repeat (first
    | ((with_reducible apply lm_sI); exact rfl)
    | ((with_reducible apply lm_sR); exact rfl)
    | ((with_reducible apply lm_sS); exact rfl; exact rfl)
    | ((with_reducible apply lm_sL); exact rfl)
    | ((with_reducible apply lm_sP); exact rfl; exact rfl)
    | ((with_reducible apply lm_sPL); exact rfl; exact rfl)
    | ((with_reducible apply lm_sAA); exact rfl; exact rfl)
    | ((with_reducible apply lm_sA); (first | exact rfl | assumption); omega)
    | ((with_reducible apply lm_sJ); (first | exact rfl | assumption); omega)
    | ((with_reducible apply lm_sB); (first | exact rfl | assumption); omega)
    | ((with_reducible apply lm_wA); (first | exact rfl | assumption); omega)
    | ((with_reducible apply lm_wJ); (first | exact rfl | assumption); omega)
    | ((with_reducible apply lm_wB); (first | exact rfl | assumption); omega)
    | ((with_reducible apply lm_sAl); (first | exact rfl | assumption); omega)
    | ((with_reducible apply lm_iW); decide))
      refine lm_cI u234 ?_
      repeat (first
    | ((with_reducible apply lm_sI); exact rfl)
    | ((with_reducible apply lm_sR); exact rfl)
    | ((with_reducible apply lm_sS); exact rfl; exact rfl)
    | ((with_reducible apply lm_sL); exact rfl)
    | ((with_reducible apply lm_sP); exact rfl; exact rfl)
    | ((with_reducible apply lm_sPL); exact rfl; exact rfl)
    | ((with_reducible apply lm_sAA); exact rfl; exact rfl)
    | ((with_reducible apply lm_sA); (first | exact rfl | assumption); omega)
    | ((with_reducible apply lm_sJ); (first | exact rfl | assumption); omega)
    | ((with_reducible apply lm_sB); (first | exact rfl | assumption); omega)
    | ((with_reducible apply lm_wA); (first | exact rfl | assumption); omega)
    | ((with_reducible apply lm_wJ); (first | exact rfl | assumption); omega)
    | ((with_reducible apply lm_wB); (first | exact rfl | assumption); omega)
    | ((with_reducible apply lm_sAl); (first | exact rfl | assumption); omega)
    | ((with_reducible apply lm_iW); decide))
      refine lm_sAA rfl (lm_roS t (by omega)) ?_
      repeat (first
    | ((with_reducible apply lm_sI); exact rfl)
    | ((with_reducible apply lm_sR); exact rfl)
    | ((with_reducible apply lm_sS); exact rfl; exact rfl)
    | ((with_reducible apply lm_sL); exact rfl)
    | ((with_reducible apply lm_sP); exact rfl; exact rfl)
    | ((with_reducible apply lm_sPL); exact rfl; exact rfl)
    | ((with_reducible apply lm_sAA); exact rfl; exact rfl)
    | ((with_reducible apply lm_sA); (first | exact rfl | assumption); omega)
    | ((with_reducible apply lm_sJ); (first | exact rfl | assumption); omega)
    | ((with_reducible apply lm_sB); (first | exact rfl | assumption); omega)
    | ((with_reducible apply lm_wA); (first | exact rfl | assumption); omega)
    | ((with_reducible apply lm_wJ); (first | exact rfl | assumption); omega)
    | ((with_reducible apply lm_wB); (first | exact rfl | assumption); omega)
    | ((with_reducible apply lm_sAl); (first | exact rfl | assumption); omega)
    | ((with_reducible apply lm_iW); decide))
      rw [lm_oN (lm_de s)]
      refine lm_cV c2 ?_
      repeat (first
    | ((with_reducible apply lm_sI); exact rfl)
    | ((with_reducible apply lm_sR); exact rfl)
    | ((with_reducible apply lm_sS); exact rfl; exact rfl)
    | ((with_reducible apply lm_sL); exact rfl)
    | ((with_reducible apply lm_sP); exact rfl; exact rfl)
    | ((with_reducible apply lm_sPL); exact rfl; exact rfl)
    | ((with_reducible apply lm_sAA); exact rfl; exact rfl)
    | ((with_reducible apply lm_sA); (first | exact rfl | assumption); omega)
    | ((with_reducible apply lm_sJ); (first | exact rfl | assumption); omega)
    | ((with_reducible apply lm_sB); (first | exact rfl | assumption); omega)
    | ((with_reducible apply lm_wA); (first | exact rfl | assumption); omega)
    | ((with_reducible apply lm_wJ); (first | exact rfl | assumption); omega)
    | ((with_reducible apply lm_wB); (first | exact rfl | assumption); omega)
    | ((with_reducible apply lm_sAl); (first | exact rfl | assumption); omega)
    | ((with_reducible apply lm_iW); decide))
      refine lm_sAA rfl (lm_roS t (by omega)) ?_
      repeat (first
    | ((with_reducible apply lm_sI); exact rfl)
    | ((with_reducible apply lm_sR); exact rfl)
    | ((with_reducible apply lm_sS); exact rfl; exact rfl)
    | ((with_reducible apply lm_sL); exact rfl)
    | ((with_reducible apply lm_sP); exact rfl; exact rfl)
    | ((with_reducible apply lm_sPL); exact rfl; exact rfl)
    | ((with_reducible apply lm_sAA); exact rfl; exact rfl)
    | ((with_reducible apply lm_sA); (first | exact rfl | assumption); omega)
    | ((with_reducible apply lm_sJ); (first | exact rfl | assumption); omega)
    | ((with_reducible apply lm_sB); (first | exact rfl | assumption); omega)
    | ((with_reducible apply lm_wA); (first | exact rfl | assumption); omega)
    | ((with_reducible apply lm_wJ); (first | exact rfl | assumption); omega)
    | ((with_reducible apply lm_wB); (first | exact rfl | assumption); omega)
    | ((with_reducible apply lm_sAl); (first | exact rfl | assumption); omega)
    | ((with_reducible apply lm_iW); decide))
      refine lm_cV c3 ?_
      repeat (first
    | ((with_reducible apply lm_sI); exact rfl)
    | ((with_reducible apply lm_sR); exact rfl)
    | ((with_reducible apply lm_sS); exact rfl; exact rfl)
    | ((with_reducible apply lm_sL); exact rfl)
    | ((with_reducible apply lm_sP); exact rfl; exact rfl)
    | ((with_reducible apply lm_sPL); exact rfl; exact rfl)
    | ((with_reducible apply lm_sAA); exact rfl; exact rfl)
    | ((with_reducible apply lm_sA); (first | exact rfl | assumption); omega)
    | ((with_reducible apply lm_sJ); (first | exact rfl | assumption); omega)
    | ((with_reducible apply lm_sB); (first | exact rfl | assumption); omega)
    | ((with_reducible apply lm_wA); (first | exact rfl | assumption); omega)
    | ((with_reducible apply lm_wJ); (first | exact rfl | assumption); omega)
    | ((with_reducible apply lm_wB); (first | exact rfl | assumption); omega)
    | ((with_reducible apply lm_sAl); (first | exact rfl | assumption); omega)
    | ((with_reducible apply lm_iW); decide))
      refine lm_cI u234' ?_
      rw [lm_K32, lm_om, lm_oo, lm_K1, lm_oo]
      rw [Nat.mul_succ, ← Nat.add_assoc] at K
      exact K) (lm_dl s + lm_dk s) 0 (by omega) m n ⟨rfl, fun _ _ => rfl, fun t' ht' => absurd ht' (by omega)⟩
  subst en
  obtain ⟨m2, n2, ⟨en, j1, j2⟩, k2⟩ := lm_lp (sc := lm_sc xs) (d := d + 3) (b := lm_dk s) (hs := lm_m244.2.2.2.2.1) (code := lm_reg lm_m244.2.2.2.2.2) (x := x) (fr := fun i => (71, [(0, .ref 76), (1, .ref 31), (2, .int (Int32.ofNat (lm_xb1 s + 416 * i))), (3, .int (Int32.ofNat i))], [])) (I := fun i m' n' => n' = n1 ∧ (∀ r, (r < 152 ∨ 159 < r) → m' r = m1 r) ∧ ∀ i', i' < i → lm_pts m' (152 + i') (lm_zT (m 31) s i')) (fun i hi m2 n2 ⟨en, j1, j2⟩ => by
    have e76 : m2 76 = m 76 := by rw [j1 76 (by omega), g1 76 (by omega)]
    obtain ⟨m3, c3, p3⟩ := lm_u252 (sc := lm_sc xs) (d := d + 1) (m := m2) (n := n2) (x := x) (q := 31) (v := 65536) (p := 152 + i) (a := lm_xb1 s + 416 * i) (bits := 13) (B := 4096) (by omega) rfl (by decide) (lm_arT i (by omega)) (by omega) (by omega) (by omega) (by omega)
    rw [j1 31 (by omega), g1 31 (by omega)] at p3
    obtain ⟨m4, U, c4, p4, u4, b4⟩ := lm_u236 (sc := lm_sc xs) (d := d + 2) (m := m3) (n := n2) (x := x) (p := 152 + i) (G := lm_zT (m 31) s i) (B := 4096) (lm_arT i (by omega)) (by omega) (fun k hk => by rw [p3.1 77 (by omega), j1 77 (by omega), g1 77 (by omega)]; exact hz k hk) (by decide) (fun c hc => lm_zT_b) (fun c hc => by rw [p3.2 c hc]; rfl)
    refine ⟨m4, n2, ⟨en, fun r hr => by rw [p4.1 r (by omega), p3.1 r (by omega), j1 r hr], fun i' hi' c hc => ?_⟩, fun R K => lm_e244_71 ?_⟩
    · by_cases c0 : i' = i
      · subst c0
        have b := b4 c hc
        rw [p4.2 c hc, lm_iT0 (by omega) (by omega)]
        exact ⟨u4 c hc, by omega, by omega⟩
      · rw [p4.1 _ (by omega), p3.1 _ (by omega)]
        exact j2 i' (by omega) c hc
    · clear j2
      unfold lm_q244_71
      repeat (first
    | ((with_reducible apply lm_sI); exact rfl)
    | ((with_reducible apply lm_sR); exact rfl)
    | ((with_reducible apply lm_sS); exact rfl; exact rfl)
    | ((with_reducible apply lm_sL); exact rfl)
    | ((with_reducible apply lm_sP); exact rfl; exact rfl)
    | ((with_reducible apply lm_sPL); exact rfl; exact rfl)
    | ((with_reducible apply lm_sAA); exact rfl; exact rfl)
    | ((with_reducible apply lm_sA); (first | exact rfl | assumption); omega)
    | ((with_reducible apply lm_sJ); (first | exact rfl | assumption); omega)
    | ((with_reducible apply lm_sB); (first | exact rfl | assumption); omega)
    | ((with_reducible apply lm_wA); (first | exact rfl | assumption); omega)
    | ((with_reducible apply lm_wJ); (first | exact rfl | assumption); omega)
    | ((with_reducible apply lm_wB); (first | exact rfl | assumption); omega)
    | ((with_reducible apply lm_sAl); (first | exact rfl | assumption); omega)
    | ((with_reducible apply lm_iW); decide))
      simp only [Nat.reduceDiv, Nat.reduceMod]
      rw [e76, h.2.1]
      refine lm_geF (by omega) (by omega) (by omega) ?_
      rw [lm_K13]
      repeat (first
    | ((with_reducible apply lm_sI); exact rfl)
    | ((with_reducible apply lm_sR); exact rfl)
    | ((with_reducible apply lm_sS); exact rfl; exact rfl)
    | ((with_reducible apply lm_sL); exact rfl)
    | ((with_reducible apply lm_sP); exact rfl; exact rfl)
    | ((with_reducible apply lm_sPL); exact rfl; exact rfl)
    | ((with_reducible apply lm_sAA); exact rfl; exact rfl)
    | ((with_reducible apply lm_sA); (first | exact rfl | assumption); omega)
    | ((with_reducible apply lm_sJ); (first | exact rfl | assumption); omega)
    | ((with_reducible apply lm_sB); (first | exact rfl | assumption); omega)
    | ((with_reducible apply lm_wA); (first | exact rfl | assumption); omega)
    | ((with_reducible apply lm_wJ); (first | exact rfl | assumption); omega)
    | ((with_reducible apply lm_wB); (first | exact rfl | assumption); omega)
    | ((with_reducible apply lm_sAl); (first | exact rfl | assumption); omega)
    | ((with_reducible apply lm_iW); decide))
      refine lm_sAA rfl (lm_roT i (by omega)) ?_
      repeat (first
    | ((with_reducible apply lm_sI); exact rfl)
    | ((with_reducible apply lm_sR); exact rfl)
    | ((with_reducible apply lm_sS); exact rfl; exact rfl)
    | ((with_reducible apply lm_sL); exact rfl)
    | ((with_reducible apply lm_sP); exact rfl; exact rfl)
    | ((with_reducible apply lm_sPL); exact rfl; exact rfl)
    | ((with_reducible apply lm_sAA); exact rfl; exact rfl)
    | ((with_reducible apply lm_sA); (first | exact rfl | assumption); omega)
    | ((with_reducible apply lm_sJ); (first | exact rfl | assumption); omega)
    | ((with_reducible apply lm_sB); (first | exact rfl | assumption); omega)
    | ((with_reducible apply lm_wA); (first | exact rfl | assumption); omega)
    | ((with_reducible apply lm_wJ); (first | exact rfl | assumption); omega)
    | ((with_reducible apply lm_wB); (first | exact rfl | assumption); omega)
    | ((with_reducible apply lm_sAl); (first | exact rfl | assumption); omega)
    | ((with_reducible apply lm_iW); decide))
      refine lm_cV c3 ?_
      repeat (first
    | ((with_reducible apply lm_sI); exact rfl)
    | ((with_reducible apply lm_sR); exact rfl)
    | ((with_reducible apply lm_sS); exact rfl; exact rfl)
    | ((with_reducible apply lm_sL); exact rfl)
    | ((with_reducible apply lm_sP); exact rfl; exact rfl)
    | ((with_reducible apply lm_sPL); exact rfl; exact rfl)
    | ((with_reducible apply lm_sAA); exact rfl; exact rfl)
    | ((with_reducible apply lm_sA); (first | exact rfl | assumption); omega)
    | ((with_reducible apply lm_sJ); (first | exact rfl | assumption); omega)
    | ((with_reducible apply lm_sB); (first | exact rfl | assumption); omega)
    | ((with_reducible apply lm_wA); (first | exact rfl | assumption); omega)
    | ((with_reducible apply lm_wJ); (first | exact rfl | assumption); omega)
    | ((with_reducible apply lm_wB); (first | exact rfl | assumption); omega)
    | ((with_reducible apply lm_sAl); (first | exact rfl | assumption); omega)
    | ((with_reducible apply lm_iW); decide))
      refine lm_sAA rfl (lm_roT i (by omega)) ?_
      repeat (first
    | ((with_reducible apply lm_sI); exact rfl)
    | ((with_reducible apply lm_sR); exact rfl)
    | ((with_reducible apply lm_sS); exact rfl; exact rfl)
    | ((with_reducible apply lm_sL); exact rfl)
    | ((with_reducible apply lm_sP); exact rfl; exact rfl)
    | ((with_reducible apply lm_sPL); exact rfl; exact rfl)
    | ((with_reducible apply lm_sAA); exact rfl; exact rfl)
    | ((with_reducible apply lm_sA); (first | exact rfl | assumption); omega)
    | ((with_reducible apply lm_sJ); (first | exact rfl | assumption); omega)
    | ((with_reducible apply lm_sB); (first | exact rfl | assumption); omega)
    | ((with_reducible apply lm_wA); (first | exact rfl | assumption); omega)
    | ((with_reducible apply lm_wJ); (first | exact rfl | assumption); omega)
    | ((with_reducible apply lm_wB); (first | exact rfl | assumption); omega)
    | ((with_reducible apply lm_sAl); (first | exact rfl | assumption); omega)
    | ((with_reducible apply lm_iW); decide))
      refine lm_cV c4 ?_
      rw [show Int32.ofInt 416 = Int32.ofNat 416 from rfl, lm_oo, lm_K1, lm_oo]
      rw [Nat.mul_succ, ← Nat.add_assoc] at K
      exact K) (lm_dk s) 0 (by omega) m1 n1 ⟨rfl, fun _ _ => rfl, fun i' hi' => absurd hi' (by omega)⟩
  subst en
  refine ⟨m2, ?_, fun r hr => by rw [j1 r (by omega), g1 r (by omega)], fun t ht c hc => by rw [j1 _ (by omega)]; exact g2 t ht c hc, j2⟩
  clear g2 j2
  refine lm_cal_of (Y := lm_m244) rfl rfl (lm_e244_0 ?_)
  unfold lm_q244_0
  rw [lm_K128, lm_K0]
  refine k1 _ (lm_e244_6 ?_)
  unfold lm_q244_6
  repeat (first
    | ((with_reducible apply lm_sI); exact rfl)
    | ((with_reducible apply lm_sR); exact rfl)
    | ((with_reducible apply lm_sS); exact rfl; exact rfl)
    | ((with_reducible apply lm_sL); exact rfl)
    | ((with_reducible apply lm_sP); exact rfl; exact rfl)
    | ((with_reducible apply lm_sPL); exact rfl; exact rfl)
    | ((with_reducible apply lm_sAA); exact rfl; exact rfl)
    | ((with_reducible apply lm_sA); (first | exact rfl | assumption); omega)
    | ((with_reducible apply lm_sJ); (first | exact rfl | assumption); omega)
    | ((with_reducible apply lm_sB); (first | exact rfl | assumption); omega)
    | ((with_reducible apply lm_wA); (first | exact rfl | assumption); omega)
    | ((with_reducible apply lm_wJ); (first | exact rfl | assumption); omega)
    | ((with_reducible apply lm_wB); (first | exact rfl | assumption); omega)
    | ((with_reducible apply lm_sAl); (first | exact rfl | assumption); omega)
    | ((with_reducible apply lm_iW); decide))
  simp only [Nat.reduceDiv, Nat.reduceMod]
  rw [g1 76 (by omega), h.2.1, h.2.2, lm_oo]
  refine lm_geT (by omega) (by omega) (by omega) ?_
  rw [lm_K0, ← e1]
  refine k2 _ (lm_e244_71 ?_)
  unfold lm_q244_71
  repeat (first
    | ((with_reducible apply lm_sI); exact rfl)
    | ((with_reducible apply lm_sR); exact rfl)
    | ((with_reducible apply lm_sS); exact rfl; exact rfl)
    | ((with_reducible apply lm_sL); exact rfl)
    | ((with_reducible apply lm_sP); exact rfl; exact rfl)
    | ((with_reducible apply lm_sPL); exact rfl; exact rfl)
    | ((with_reducible apply lm_sAA); exact rfl; exact rfl)
    | ((with_reducible apply lm_sA); (first | exact rfl | assumption); omega)
    | ((with_reducible apply lm_sJ); (first | exact rfl | assumption); omega)
    | ((with_reducible apply lm_sB); (first | exact rfl | assumption); omega)
    | ((with_reducible apply lm_wA); (first | exact rfl | assumption); omega)
    | ((with_reducible apply lm_wJ); (first | exact rfl | assumption); omega)
    | ((with_reducible apply lm_wB); (first | exact rfl | assumption); omega)
    | ((with_reducible apply lm_sAl); (first | exact rfl | assumption); omega)
    | ((with_reducible apply lm_iW); decide))
  simp only [Nat.reduceDiv, Nat.reduceMod]
  rw [j1 76 (by omega), g1 76 (by omega), h.2.1]
  exact lm_geT (by omega) (by omega) (by omega) rfl
/-- fillMask -/
theorem lm_u296 {p j : Nat} (hC : lm_Cok xs C) (hr : ln_rt m) (hs : s ≤ 2) (h17 : m 76 17 = Int32.ofNat s) (hp : lm_ar p = some (0, 256)) (gp : 22 < p ∧ p ≠ 76 ∧ p ≠ 188 ∧ p ≠ 190) : ∃ m' n', lm_cal (lm_sc xs) (d + 5) 296 [.ref 76, .ref p, .int (Int32.ofNat j)] (lm_w m n x) = some (.ok none, lm_w m' n' x) ∧ (∀ r, (r < 5 ∨ 22 < r) → r ≠ 188 → r ≠ 190 → r ≠ p → m' r = m r) ∧ lm_fN m n m' n' ∧ ∀ c, c < 256 → m' p c = Int32.ofInt (lm_zY C (m 189) s j c) := by
  have hpar := lm_dpar s hs
  generalize eM : lm_u (lm_u (lm_cp m 190 0 189 0 64) 190 64 (lm_b8 (Int32.ofNat j))) 190 65 (lm_b8 ((Int32.ofNat j) >>> ((Int32.ofInt 8) &&& 31))) = M
  have rM : ∀ r, r ≠ 190 → M r = m r := fun r hr => by rw [← eM, lm_u_row hr, lm_u_row hr, lm_cp_row hr]
  have hG : ∀ t, t < 66 → lm_b8 (M 190 t) = ln_g6 (m 189) 0 (Int32.ofNat j) t := fun t ht => by
    unfold ln_g6
    by_cases c1 : t < 64
    · rw [if_pos c1, ← eM, lm_u_ne (by omega), lm_u_ne (by omega), lm_rc, if_pos ⟨rfl, by omega, by omega⟩, Nat.sub_zero, Nat.add_comm t 0]
    · rw [if_neg c1]
      by_cases c2 : t = 64
      · rw [if_pos c2, c2, ← eM, lm_u_ne (by decide), lm_u_eq, lm_b8b8]
      · rw [if_neg c2, show t = 65 by omega, ← eM, lm_u_eq, lm_b8b8]
  have hrM : ln_rt M := ⟨by rw [rM 11 (by decide)]; exact hr.1, by rw [rM 17 (by decide)]; exact hr.2⟩
  obtain ⟨m1, n1, k1, s1, f1⟩ := lm_cS (xs := xs) (d := d + 1) (x := x) (m := M) (n := n) (k := 12) (G := ln_g6 (m 189) 0 (Int32.ofNat j)) hC hrM (by decide) (by decide)
  obtain ⟨m2, n2, k2, s2, f2⟩ := lm_cA (xs := xs) (d := d) (x := x) (k := 12) (q := 190) (v := 66) (a := 0) (l := 66) (L := 0) (G := ln_g6 (m 189) 0 (Int32.ofNat j)) hC (by decide) (by decide) (by decide) rfl (by decide) (by decide) (fun t ht => by
    rw [f1.1 190 (by decide), Nat.zero_add]
    exact hG t ht) s1
  rw [Nat.zero_add] at s2
  have h17' : ∀ M' : lm_MI, M' 76 = m 76 → M' 76 17 = Int32.ofNat s := fun M' e => by rw [e]; exact h17
  have u1 := lm_u251 (sc := lm_sc xs) (d := d + 3) (m := m2) (n := n2) (x := x) hs (h17' m2 (by rw [(f1.tr f2).1 76 (by decide), rM 76 (by decide)]))
  obtain ⟨m3, n3, k3, f3⟩ := lm_cF (xs := xs) (d := d) (x := x) (k := 12) (q := 188) (v := 640) (a := 0) (l := 32 * lm_dw s) hC (by decide) (by decide) (by decide) rfl (by omega) (by decide) (fun h => absurd h (by decide)) s2
  have fC := f1.tr (f2.tr f3)
  generalize eM4 : lm_fil m3 188 0 (0 + 32 * lm_dw s) (fun i => lm_Hm C 12 (ln_g6 (m 189) 0 (Int32.ofNat j)) 66 (i - 0)) = M4 at k3
  have r4 : ∀ r, r ≠ 188 → M4 r = m3 r := fun r hr => by rw [← eM4, lm_fl_row hr]
  have e76 : M4 76 = m 76 := by rw [r4 76 (by decide), fC.1 76 (by decide), rM 76 (by decide)]
  have u2 := lm_u251 (sc := lm_sc xs) (d := d + 3) (m := M4) (n := n3) (x := x) hs (h17' M4 e76)
  obtain ⟨m5, c5, p5⟩ := lm_u252 (sc := lm_sc xs) (d := d + 2) (m := M4) (n := n3) (x := x) (q := 188) (v := 640) (p := p) (a := 0) (bits := lm_dw s) (B := (lm_dg1 s : Int)) (by omega) rfl (by decide) hp (fun g => gp.2.2.1 g.symm) (by omega) (by omega) (by omega)
  refine ⟨m5, n3, ?_, fun r q1 q2 q3 q4 => by rw [p5.1 r q4, r4 r q2, fC.1 r q1, rM r q3], ?_, fun c hc => ?_⟩
  · refine lm_cal_of (Y := lm_m296) rfl rfl (lm_e296_0 ?_)
    unfold lm_q296_0
    rw [lm_K0, lm_K64, lm_K12]
    repeat (first
    | ((with_reducible apply lm_sI); exact rfl)
    | ((with_reducible apply lm_sR); exact rfl)
    | ((with_reducible apply lm_sS); exact rfl; exact rfl)
    | ((with_reducible apply lm_sL); exact rfl)
    | ((with_reducible apply lm_sP); exact rfl; exact rfl)
    | ((with_reducible apply lm_sPL); exact rfl; exact rfl)
    | ((with_reducible apply lm_sAA); exact rfl; exact rfl)
    | ((with_reducible apply lm_sA); (first | exact rfl | assumption); omega)
    | ((with_reducible apply lm_sJ); (first | exact rfl | assumption); omega)
    | ((with_reducible apply lm_sB); (first | exact rfl | assumption); omega)
    | ((with_reducible apply lm_wA); (first | exact rfl | assumption); omega)
    | ((with_reducible apply lm_wJ); (first | exact rfl | assumption); omega)
    | ((with_reducible apply lm_wB); (first | exact rfl | assumption); omega)
    | ((with_reducible apply lm_sAl); (first | exact rfl | assumption); omega)
    | ((with_reducible apply lm_iW); decide))
    refine lm_sCp (u := 1) rfl rfl (Or.inr rfl) (by decide) (by decide) ?_
    rw [show Int32.ofInt 65 = Int32.ofNat 65 from rfl, show Int32.ofInt 66 = Int32.ofNat 66 from rfl]
    repeat (first
    | ((with_reducible apply lm_sI); exact rfl)
    | ((with_reducible apply lm_sR); exact rfl)
    | ((with_reducible apply lm_sS); exact rfl; exact rfl)
    | ((with_reducible apply lm_sL); exact rfl)
    | ((with_reducible apply lm_sP); exact rfl; exact rfl)
    | ((with_reducible apply lm_sPL); exact rfl; exact rfl)
    | ((with_reducible apply lm_sAA); exact rfl; exact rfl)
    | ((with_reducible apply lm_sA); (first | exact rfl | assumption); omega)
    | ((with_reducible apply lm_sJ); (first | exact rfl | assumption); omega)
    | ((with_reducible apply lm_sB); (first | exact rfl | assumption); omega)
    | ((with_reducible apply lm_wA); (first | exact rfl | assumption); omega)
    | ((with_reducible apply lm_wJ); (first | exact rfl | assumption); omega)
    | ((with_reducible apply lm_wB); (first | exact rfl | assumption); omega)
    | ((with_reducible apply lm_sAl); (first | exact rfl | assumption); omega)
    | ((with_reducible apply lm_iW); decide))
    rw [eM]
    refine lm_cR k1 ?_
    repeat (first
    | ((with_reducible apply lm_sI); exact rfl)
    | ((with_reducible apply lm_sR); exact rfl)
    | ((with_reducible apply lm_sS); exact rfl; exact rfl)
    | ((with_reducible apply lm_sL); exact rfl)
    | ((with_reducible apply lm_sP); exact rfl; exact rfl)
    | ((with_reducible apply lm_sPL); exact rfl; exact rfl)
    | ((with_reducible apply lm_sAA); exact rfl; exact rfl)
    | ((with_reducible apply lm_sA); (first | exact rfl | assumption); omega)
    | ((with_reducible apply lm_sJ); (first | exact rfl | assumption); omega)
    | ((with_reducible apply lm_sB); (first | exact rfl | assumption); omega)
    | ((with_reducible apply lm_wA); (first | exact rfl | assumption); omega)
    | ((with_reducible apply lm_wJ); (first | exact rfl | assumption); omega)
    | ((with_reducible apply lm_wB); (first | exact rfl | assumption); omega)
    | ((with_reducible apply lm_sAl); (first | exact rfl | assumption); omega)
    | ((with_reducible apply lm_iW); decide))
    refine lm_cV k2 ?_
    repeat (first
    | ((with_reducible apply lm_sI); exact rfl)
    | ((with_reducible apply lm_sR); exact rfl)
    | ((with_reducible apply lm_sS); exact rfl; exact rfl)
    | ((with_reducible apply lm_sL); exact rfl)
    | ((with_reducible apply lm_sP); exact rfl; exact rfl)
    | ((with_reducible apply lm_sPL); exact rfl; exact rfl)
    | ((with_reducible apply lm_sAA); exact rfl; exact rfl)
    | ((with_reducible apply lm_sA); (first | exact rfl | assumption); omega)
    | ((with_reducible apply lm_sJ); (first | exact rfl | assumption); omega)
    | ((with_reducible apply lm_sB); (first | exact rfl | assumption); omega)
    | ((with_reducible apply lm_wA); (first | exact rfl | assumption); omega)
    | ((with_reducible apply lm_wJ); (first | exact rfl | assumption); omega)
    | ((with_reducible apply lm_wB); (first | exact rfl | assumption); omega)
    | ((with_reducible apply lm_sAl); (first | exact rfl | assumption); omega)
    | ((with_reducible apply lm_iW); decide))
    refine lm_cI u1 ?_
    rw [lm_K32, lm_om]
    repeat (first
    | ((with_reducible apply lm_sI); exact rfl)
    | ((with_reducible apply lm_sR); exact rfl)
    | ((with_reducible apply lm_sS); exact rfl; exact rfl)
    | ((with_reducible apply lm_sL); exact rfl)
    | ((with_reducible apply lm_sP); exact rfl; exact rfl)
    | ((with_reducible apply lm_sPL); exact rfl; exact rfl)
    | ((with_reducible apply lm_sAA); exact rfl; exact rfl)
    | ((with_reducible apply lm_sA); (first | exact rfl | assumption); omega)
    | ((with_reducible apply lm_sJ); (first | exact rfl | assumption); omega)
    | ((with_reducible apply lm_sB); (first | exact rfl | assumption); omega)
    | ((with_reducible apply lm_wA); (first | exact rfl | assumption); omega)
    | ((with_reducible apply lm_wJ); (first | exact rfl | assumption); omega)
    | ((with_reducible apply lm_wB); (first | exact rfl | assumption); omega)
    | ((with_reducible apply lm_sAl); (first | exact rfl | assumption); omega)
    | ((with_reducible apply lm_iW); decide))
    refine lm_cV k3 ?_
    repeat (first
    | ((with_reducible apply lm_sI); exact rfl)
    | ((with_reducible apply lm_sR); exact rfl)
    | ((with_reducible apply lm_sS); exact rfl; exact rfl)
    | ((with_reducible apply lm_sL); exact rfl)
    | ((with_reducible apply lm_sP); exact rfl; exact rfl)
    | ((with_reducible apply lm_sPL); exact rfl; exact rfl)
    | ((with_reducible apply lm_sAA); exact rfl; exact rfl)
    | ((with_reducible apply lm_sA); (first | exact rfl | assumption); omega)
    | ((with_reducible apply lm_sJ); (first | exact rfl | assumption); omega)
    | ((with_reducible apply lm_sB); (first | exact rfl | assumption); omega)
    | ((with_reducible apply lm_wA); (first | exact rfl | assumption); omega)
    | ((with_reducible apply lm_wJ); (first | exact rfl | assumption); omega)
    | ((with_reducible apply lm_wB); (first | exact rfl | assumption); omega)
    | ((with_reducible apply lm_sAl); (first | exact rfl | assumption); omega)
    | ((with_reducible apply lm_iW); decide))
    simp only [Nat.reduceDiv, Nat.reduceMod]
    rw [e76, h17]
    refine ln_tb11 hs ?_
    repeat (first
    | ((with_reducible apply lm_sI); exact rfl)
    | ((with_reducible apply lm_sR); exact rfl)
    | ((with_reducible apply lm_sS); exact rfl; exact rfl)
    | ((with_reducible apply lm_sL); exact rfl)
    | ((with_reducible apply lm_sP); exact rfl; exact rfl)
    | ((with_reducible apply lm_sPL); exact rfl; exact rfl)
    | ((with_reducible apply lm_sAA); exact rfl; exact rfl)
    | ((with_reducible apply lm_sA); (first | exact rfl | assumption); omega)
    | ((with_reducible apply lm_sJ); (first | exact rfl | assumption); omega)
    | ((with_reducible apply lm_sB); (first | exact rfl | assumption); omega)
    | ((with_reducible apply lm_wA); (first | exact rfl | assumption); omega)
    | ((with_reducible apply lm_wJ); (first | exact rfl | assumption); omega)
    | ((with_reducible apply lm_wB); (first | exact rfl | assumption); omega)
    | ((with_reducible apply lm_sAl); (first | exact rfl | assumption); omega)
    | ((with_reducible apply lm_iW); decide))
    refine lm_cI u2 ?_
    repeat (first
    | ((with_reducible apply lm_sI); exact rfl)
    | ((with_reducible apply lm_sR); exact rfl)
    | ((with_reducible apply lm_sS); exact rfl; exact rfl)
    | ((with_reducible apply lm_sL); exact rfl)
    | ((with_reducible apply lm_sP); exact rfl; exact rfl)
    | ((with_reducible apply lm_sPL); exact rfl; exact rfl)
    | ((with_reducible apply lm_sAA); exact rfl; exact rfl)
    | ((with_reducible apply lm_sA); (first | exact rfl | assumption); omega)
    | ((with_reducible apply lm_sJ); (first | exact rfl | assumption); omega)
    | ((with_reducible apply lm_sB); (first | exact rfl | assumption); omega)
    | ((with_reducible apply lm_wA); (first | exact rfl | assumption); omega)
    | ((with_reducible apply lm_wJ); (first | exact rfl | assumption); omega)
    | ((with_reducible apply lm_wB); (first | exact rfl | assumption); omega)
    | ((with_reducible apply lm_sAl); (first | exact rfl | assumption); omega)
    | ((with_reducible apply lm_iW); decide))
    rw [lm_oN (lm_dg1 s)]
    exact lm_cV c5 rfl
  · refine (lm_fN.of (rM 11 (by decide)) (rM 17 (by decide))).tr (fC.N.tr (.of ?_ ?_))
    · rw [p5.1 11 (by omega), r4 11 (by decide)]
    · rw [p5.1 17 (by omega), r4 17 (by decide)]
  · rw [p5.2 c hc]
    have eb : ln_bv (ln_bt (fun j => M4 188 (0 + j))) (c * lm_dw s) (lm_dw s) = ln_bv (ln_bt (lm_Hm C 12 (ln_g6 (m 189) 0 (Int32.ofNat j)) 66)) (c * lm_dw s) (lm_dw s) := by
      refine lm_bv_ext fun t ht => ?_
      unfold ln_bt
      have hb : c * lm_dw s + t < 256 * lm_dw s := by
        have : c * lm_dw s + lm_dw s ≤ 256 * lm_dw s := by
          rw [← Nat.succ_mul]
          exact Nat.mul_le_mul_right _ hc
        omega
      show (lm_yb (M4 188 (0 + (c * lm_dw s + t) / 8))).testBit _ = _
      rw [← eM4, lm_fl_in (by omega), Nat.zero_add, Nat.sub_zero]
    unfold lm_zY
    dsimp only
    rw [eb]
end LMDV
