/-! ===== Dsa: expandSeeds, hash, packFrom, splitTop of the class ===== -/
section LMDP
variable {xs : List Int32} {sc : lm_H} {C : lm_CX} {d k l q v a s p : Nat} {m : lm_MI} {n : lm_ML} {x : lm_H × Nat × Nat} {G : Nat → Int32}
/-- hash -/
theorem lm_u240 {b w : Nat} (hC : lm_Cok xs C) (hr : ln_rt m) (hq : lm_ar q = some (1, v)) (gq : q < 5 ∨ 22 < q) (hav : a + l ≤ v) (hv : v ≤ 70000) (hp : lm_ar p = some (1, w)) (gp : p < 5 ∨ 22 < p) (hbw : b + 64 ≤ w) (hw : w ≤ 70000) (e1 : ∀ t, t < l → lm_b8 (m q (a + t)) = G t) : ∃ m' n', lm_cal (lm_sc xs) (d + 5) 240 [.ref 76, .ref q, .int (Int32.ofNat a), .int (Int32.ofNat l), .ref p, .int (Int32.ofNat b)] (lm_w m n x) = some (.ok none, lm_w m' n' x) ∧ (∀ r, (r < 5 ∨ 22 < r) → r ≠ p → m' r = m r) ∧ lm_fN m n m' n' ∧ (∀ i, i < b ∨ b + 64 ≤ i → m' p i = m p i) ∧ ∀ i, i < 64 → m' p (b + i) = lm_Hm C 12 G l i := by
  obtain ⟨m1, n1, k1, s1, f1⟩ := lm_cS (xs := xs) (d := d + 1) (x := x) (m := m) (n := n) (k := 12) (G := G) hC hr (by decide) (by decide)
  obtain ⟨m2, n2, k2, s2, f2⟩ := lm_cA (xs := xs) (d := d) (x := x) (k := 12) (q := q) (v := v) (a := a) (l := l) (L := 0) (G := G) hC (by decide) (by decide) gq hq hav hv (fun t ht => by
    rw [f1.1 q gq, Nat.zero_add]
    exact e1 t ht) s1
  rw [Nat.zero_add] at s2
  obtain ⟨m3, n3, k3, f3⟩ := lm_cF (xs := xs) (d := d) (x := x) (k := 12) (q := p) (v := w) (a := b) (l := 64) hC (by decide) (by decide) gp hp hbw hw (fun h => absurd h (by decide)) s2
  refine ⟨lm_fil m3 p b (b + 64) (fun i => lm_Hm C 12 G l (i - b)), n3, ?_, fun r hr h => ?_, ?_, fun i hi => ?_, fun i hi => ?_⟩
  rotate_left
  · exact (lm_fl_row h).trans (by rw [f3.1 r hr, f2.1 r hr, f1.1 r hr])
  · exact f1.N.tr (f2.N.tr (f3.N.tr (.of (lm_fl_row (by omega)) (lm_fl_row (by omega)))))
  · rw [lm_fl_out (by omega), f3.1 p gp, f2.1 p gp, f1.1 p gp]
  · rw [lm_fl_in (by omega), Nat.add_sub_cancel_left]
  · refine lm_cal_of (Y := lm_m240) rfl rfl (lm_e240_0 ?_)
    unfold lm_q240_0
    rw [lm_K12, lm_K64]
    repeat (first
    | ((with_reducible apply lm_sI); exact rfl)
    | ((with_reducible apply lm_sR); exact rfl)
    | ((with_reducible apply lm_sS); exact rfl; exact rfl)
    | ((with_reducible apply lm_sL); exact rfl)
    | ((with_reducible apply lm_sP); exact rfl; exact rfl)
    | ((with_reducible apply lm_sPL); exact rfl; exact rfl)
    | ((with_reducible apply lm_sAA); exact rfl; exact rfl)
    | ((with_reducible apply lm_sA); (first | exact rfl | assumption); omega)
    | ((with_reducible apply lm_sJ); (first | exact rfl | assumption); omega)
    | ((with_reducible apply lm_sB); (first | exact rfl | assumption); omega)
    | ((with_reducible apply lm_wA); (first | exact rfl | assumption); omega)
    | ((with_reducible apply lm_wJ); (first | exact rfl | assumption); omega)
    | ((with_reducible apply lm_wB); (first | exact rfl | assumption); omega)
    | ((with_reducible apply lm_sAl); (first | exact rfl | assumption); omega)
    | ((with_reducible apply lm_iW); decide))
    refine lm_cR k1 ?_
    repeat (first
    | ((with_reducible apply lm_sI); exact rfl)
    | ((with_reducible apply lm_sR); exact rfl)
    | ((with_reducible apply lm_sS); exact rfl; exact rfl)
    | ((with_reducible apply lm_sL); exact rfl)
    | ((with_reducible apply lm_sP); exact rfl; exact rfl)
    | ((with_reducible apply lm_sPL); exact rfl; exact rfl)
    | ((with_reducible apply lm_sAA); exact rfl; exact rfl)
    | ((with_reducible apply lm_sA); (first | exact rfl | assumption); omega)
    | ((with_reducible apply lm_sJ); (first | exact rfl | assumption); omega)
    | ((with_reducible apply lm_sB); (first | exact rfl | assumption); omega)
    | ((with_reducible apply lm_wA); (first | exact rfl | assumption); omega)
    | ((with_reducible apply lm_wJ); (first | exact rfl | assumption); omega)
    | ((with_reducible apply lm_wB); (first | exact rfl | assumption); omega)
    | ((with_reducible apply lm_sAl); (first | exact rfl | assumption); omega)
    | ((with_reducible apply lm_iW); decide))
    refine lm_cV k2 ?_
    repeat (first
    | ((with_reducible apply lm_sI); exact rfl)
    | ((with_reducible apply lm_sR); exact rfl)
    | ((with_reducible apply lm_sS); exact rfl; exact rfl)
    | ((with_reducible apply lm_sL); exact rfl)
    | ((with_reducible apply lm_sP); exact rfl; exact rfl)
    | ((with_reducible apply lm_sPL); exact rfl; exact rfl)
    | ((with_reducible apply lm_sAA); exact rfl; exact rfl)
    | ((with_reducible apply lm_sA); (first | exact rfl | assumption); omega)
    | ((with_reducible apply lm_sJ); (first | exact rfl | assumption); omega)
    | ((with_reducible apply lm_sB); (first | exact rfl | assumption); omega)
    | ((with_reducible apply lm_wA); (first | exact rfl | assumption); omega)
    | ((with_reducible apply lm_wJ); (first | exact rfl | assumption); omega)
    | ((with_reducible apply lm_wB); (first | exact rfl | assumption); omega)
    | ((with_reducible apply lm_sAl); (first | exact rfl | assumption); omega)
    | ((with_reducible apply lm_iW); decide))
    exact lm_cV k3 rfl
/-- expandSeeds -/
theorem lm_u231 (hC : lm_Cok xs C) (hr : ln_rt m) (hk : m 76 18 = Int32.ofNat k) (hl : m 76 19 = Int32.ofNat l) : ∃ m' n', lm_cal (lm_sc xs) (d + 5) 231 [.ref 76, .ref 27] (lm_w m n x) = some (.ok none, lm_w m' n' x) ∧ (∀ r, (r < 5 ∨ 22 < r) → r ≠ 189 → r ≠ 190 → m' r = m r) ∧ lm_fN m n m' n' ∧ ∀ i, i < 128 → m' 189 i = lm_Hm C 12 (ln_gs (m 27) 0 (Int32.ofNat k) (Int32.ofNat l)) 34 i := by
  generalize eM : lm_u (lm_u (lm_cp m 190 0 27 0 32) 190 32 (lm_b8 (Int32.ofNat k))) 190 33 (lm_b8 (Int32.ofNat l)) = M
  have rM : ∀ r, r ≠ 190 → M r = m r := fun r hr => by rw [← eM, lm_u_row hr, lm_u_row hr, lm_cp_row hr]
  have hG : ∀ t, t < 34 → lm_b8 (M 190 t) = ln_gs (m 27) 0 (Int32.ofNat k) (Int32.ofNat l) t := fun t ht => by
    unfold ln_gs
    by_cases c1 : t < 32
    · rw [if_pos c1, ← eM, lm_u_ne (by omega), lm_u_ne (by omega), lm_rc, if_pos ⟨rfl, by omega, by omega⟩, Nat.sub_zero, Nat.add_comm t 0]
    · rw [if_neg c1]
      by_cases c2 : t = 32
      · rw [if_pos c2, c2, ← eM, lm_u_ne (by decide), lm_u_eq, lm_b8b8]
      · rw [if_neg c2, show t = 33 by omega, ← eM, lm_u_eq, lm_b8b8]
  have hrM : ln_rt M := ⟨by rw [rM 11 (by decide)]; exact hr.1, by rw [rM 17 (by decide)]; exact hr.2⟩
  obtain ⟨m1, n1, k1, s1, f1⟩ := lm_cS (xs := xs) (d := d + 1) (x := x) (m := M) (n := n) (k := 12) (G := ln_gs (m 27) 0 (Int32.ofNat k) (Int32.ofNat l)) hC hrM (by decide) (by decide)
  obtain ⟨m2, n2, k2, s2, f2⟩ := lm_cA (xs := xs) (d := d) (x := x) (k := 12) (q := 190) (v := 66) (a := 0) (l := 34) (L := 0) (G := ln_gs (m 27) 0 (Int32.ofNat k) (Int32.ofNat l)) hC (by decide) (by decide) (by decide) rfl (by decide) (by decide) (fun t ht => by
    rw [f1.1 190 (by decide), Nat.zero_add]
    exact hG t ht) s1
  rw [Nat.zero_add] at s2
  obtain ⟨m3, n3, k3, f3⟩ := lm_cF (xs := xs) (d := d) (x := x) (k := 12) (q := 189) (v := 128) (a := 0) (l := 128) hC (by decide) (by decide) (by decide) rfl (by decide) (by decide) (fun h => absurd h (by decide)) s2
  refine ⟨lm_fil m3 189 0 (0 + 128) (fun i => lm_Hm C 12 (ln_gs (m 27) 0 (Int32.ofNat k) (Int32.ofNat l)) 34 (i - 0)), n3, ?_, fun r hr h h2 => ?_, ?_, fun i hi => ?_⟩
  rotate_left
  · exact (lm_fl_row h).trans (by rw [f3.1 r hr, f2.1 r hr, f1.1 r hr, rM r h2])
  · exact (lm_fN.of (rM 11 (by decide)) (rM 17 (by decide))).tr (f1.N.tr (f2.N.tr (f3.N.tr (.of (lm_fl_row (by decide)) (lm_fl_row (by decide))))))
  · rw [lm_fl_in (by omega), Nat.sub_zero]
  · refine lm_cal_of (Y := lm_m231) rfl rfl (lm_e231_0 ?_)
    unfold lm_q231_0
    rw [lm_K0, lm_K32, lm_K33, lm_K12, lm_K34, lm_K128]
    repeat (first
    | ((with_reducible apply lm_sI); exact rfl)
    | ((with_reducible apply lm_sR); exact rfl)
    | ((with_reducible apply lm_sS); exact rfl; exact rfl)
    | ((with_reducible apply lm_sL); exact rfl)
    | ((with_reducible apply lm_sP); exact rfl; exact rfl)
    | ((with_reducible apply lm_sPL); exact rfl; exact rfl)
    | ((with_reducible apply lm_sAA); exact rfl; exact rfl)
    | ((with_reducible apply lm_sA); (first | exact rfl | assumption); omega)
    | ((with_reducible apply lm_sJ); (first | exact rfl | assumption); omega)
    | ((with_reducible apply lm_sB); (first | exact rfl | assumption); omega)
    | ((with_reducible apply lm_wA); (first | exact rfl | assumption); omega)
    | ((with_reducible apply lm_wJ); (first | exact rfl | assumption); omega)
    | ((with_reducible apply lm_wB); (first | exact rfl | assumption); omega)
    | ((with_reducible apply lm_sAl); (first | exact rfl | assumption); omega)
    | ((with_reducible apply lm_iW); decide))
    refine lm_sCp (u := 1) rfl rfl (Or.inr rfl) (by decide) (by decide) ?_
    repeat (first
    | ((with_reducible apply lm_sI); exact rfl)
    | ((with_reducible apply lm_sR); exact rfl)
    | ((with_reducible apply lm_sS); exact rfl; exact rfl)
    | ((with_reducible apply lm_sL); exact rfl)
    | ((with_reducible apply lm_sP); exact rfl; exact rfl)
    | ((with_reducible apply lm_sPL); exact rfl; exact rfl)
    | ((with_reducible apply lm_sAA); exact rfl; exact rfl)
    | ((with_reducible apply lm_sA); (first | exact rfl | assumption); omega)
    | ((with_reducible apply lm_sJ); (first | exact rfl | assumption); omega)
    | ((with_reducible apply lm_sB); (first | exact rfl | assumption); omega)
    | ((with_reducible apply lm_wA); (first | exact rfl | assumption); omega)
    | ((with_reducible apply lm_wJ); (first | exact rfl | assumption); omega)
    | ((with_reducible apply lm_wB); (first | exact rfl | assumption); omega)
    | ((with_reducible apply lm_sAl); (first | exact rfl | assumption); omega)
    | ((with_reducible apply lm_iW); decide))
    simp only [Nat.reduceDiv, Nat.reduceMod]
    rw [lm_u_row (by decide), lm_cp_row (by decide), hk, hl, eM]
    refine lm_cR k1 ?_
    repeat (first
    | ((with_reducible apply lm_sI); exact rfl)
    | ((with_reducible apply lm_sR); exact rfl)
    | ((with_reducible apply lm_sS); exact rfl; exact rfl)
    | ((with_reducible apply lm_sL); exact rfl)
    | ((with_reducible apply lm_sP); exact rfl; exact rfl)
    | ((with_reducible apply lm_sPL); exact rfl; exact rfl)
    | ((with_reducible apply lm_sAA); exact rfl; exact rfl)
    | ((with_reducible apply lm_sA); (first | exact rfl | assumption); omega)
    | ((with_reducible apply lm_sJ); (first | exact rfl | assumption); omega)
    | ((with_reducible apply lm_sB); (first | exact rfl | assumption); omega)
    | ((with_reducible apply lm_wA); (first | exact rfl | assumption); omega)
    | ((with_reducible apply lm_wJ); (first | exact rfl | assumption); omega)
    | ((with_reducible apply lm_wB); (first | exact rfl | assumption); omega)
    | ((with_reducible apply lm_sAl); (first | exact rfl | assumption); omega)
    | ((with_reducible apply lm_iW); decide))
    refine lm_cV k2 ?_
    repeat (first
    | ((with_reducible apply lm_sI); exact rfl)
    | ((with_reducible apply lm_sR); exact rfl)
    | ((with_reducible apply lm_sS); exact rfl; exact rfl)
    | ((with_reducible apply lm_sL); exact rfl)
    | ((with_reducible apply lm_sP); exact rfl; exact rfl)
    | ((with_reducible apply lm_sPL); exact rfl; exact rfl)
    | ((with_reducible apply lm_sAA); exact rfl; exact rfl)
    | ((with_reducible apply lm_sA); (first | exact rfl | assumption); omega)
    | ((with_reducible apply lm_sJ); (first | exact rfl | assumption); omega)
    | ((with_reducible apply lm_sB); (first | exact rfl | assumption); omega)
    | ((with_reducible apply lm_wA); (first | exact rfl | assumption); omega)
    | ((with_reducible apply lm_wJ); (first | exact rfl | assumption); omega)
    | ((with_reducible apply lm_wB); (first | exact rfl | assumption); omega)
    | ((with_reducible apply lm_sAl); (first | exact rfl | assumption); omega)
    | ((with_reducible apply lm_iW); decide))
    exact lm_cV k3 rfl
/-- packFrom -/
theorem lm_u235 {B : Int} {bits : Nat} {V : Nat → Int} (hq : lm_ar q = some (1, v)) (hv : v ≤ 70000) (hq7 : q ≠ 187) (hp : lm_ar p = some (0, 256)) (hp7 : p ≠ 187) (hb1 : 1 ≤ bits) (hb : bits ≤ 20) (ha : a + 32 * bits ≤ v) (hV : ∀ i, i < 256 → m p i = Int32.ofInt (V i) ∧ 0 ≤ B - V i ∧ B - V i < (2 ^ bits : Nat)) : ∃ m', lm_cal sc (d + 2) 235 [.ref 76, .int (Int32.ofInt B), .ref p, .int (Int32.ofNat bits), .ref q, .int (Int32.ofNat a)] (lm_w m n x) = some (.ok none, lm_w m' n x) ∧ (∀ r, r ≠ 187 → r ≠ q → m' r = m r) ∧ (∀ j, j < a ∨ a + 32 * bits ≤ j → m' q j = m q j) ∧ ∀ j, j < 32 * bits → lm_yb (m' q (a + j)) = ln_bv (lm_ts (fun i => (B - V i).toNat) bits) (8 * j) 8 := by
  obtain ⟨m1, n1, ⟨en, h0, h1⟩, k1⟩ := lm_lp (sc := sc) (d := d + 1) (b := 256) (hs := lm_m235.2.2.2.2.1) (code := lm_reg lm_m235.2.2.2.2.2) (x := x) (fr := fun i => (3, [(0, .ref 76), (1, .int (Int32.ofInt B)), (2, .ref p), (3, .int (Int32.ofNat bits)), (4, .ref q), (5, .int (Int32.ofNat a)), (6, .int (Int32.ofNat i))], [])) (I := fun i m' n' => n' = n ∧ (∀ r, r ≠ 187 → m' r = m r) ∧ ∀ j, j < i → m' 187 j = Int32.ofNat (B - V j).toNat) (fun i hi m1 n1 ⟨en, h0, h1⟩ => by
    have hv := hV i hi
    refine ⟨lm_u m1 187 i (Int32.ofNat (B - V i).toNat), n1, ⟨en, fun r hr => (lm_u_row hr).trans (h0 r hr), fun j hj => ?_⟩, fun R K => lm_e235_3 ?_⟩
    · by_cases c : j = i
      · subst c; rw [lm_u_eq]
      · rw [lm_u_ne (by omega)]; exact h1 j (by omega)
    · unfold lm_q235_3
      rw [lm_K256]
      refine lm_geF (by omega) (by omega) (by omega) ?_
      repeat (first
    | ((with_reducible apply lm_sI); exact rfl)
    | ((with_reducible apply lm_sR); exact rfl)
    | ((with_reducible apply lm_sS); exact rfl; exact rfl)
    | ((with_reducible apply lm_sL); exact rfl)
    | ((with_reducible apply lm_sP); exact rfl; exact rfl)
    | ((with_reducible apply lm_sPL); exact rfl; exact rfl)
    | ((with_reducible apply lm_sAA); exact rfl; exact rfl)
    | ((with_reducible apply lm_sA); (first | exact rfl | assumption); omega)
    | ((with_reducible apply lm_sJ); (first | exact rfl | assumption); omega)
    | ((with_reducible apply lm_sB); (first | exact rfl | assumption); omega)
    | ((with_reducible apply lm_wA); (first | exact rfl | assumption); omega)
    | ((with_reducible apply lm_wJ); (first | exact rfl | assumption); omega)
    | ((with_reducible apply lm_wB); (first | exact rfl | assumption); omega)
    | ((with_reducible apply lm_sAl); (first | exact rfl | assumption); omega)
    | ((with_reducible apply lm_iW); decide))
      rw [h0 p hp7, hv.1, lm_iS, show Int32.ofInt (B - V i) = Int32.ofNat (B - V i).toNat by rw [lm_oN, Int.toNat_of_nonneg hv.2.1]]
      repeat (first
    | ((with_reducible apply lm_sI); exact rfl)
    | ((with_reducible apply lm_sR); exact rfl)
    | ((with_reducible apply lm_sS); exact rfl; exact rfl)
    | ((with_reducible apply lm_sL); exact rfl)
    | ((with_reducible apply lm_sP); exact rfl; exact rfl)
    | ((with_reducible apply lm_sPL); exact rfl; exact rfl)
    | ((with_reducible apply lm_sAA); exact rfl; exact rfl)
    | ((with_reducible apply lm_sA); (first | exact rfl | assumption); omega)
    | ((with_reducible apply lm_sJ); (first | exact rfl | assumption); omega)
    | ((with_reducible apply lm_sB); (first | exact rfl | assumption); omega)
    | ((with_reducible apply lm_wA); (first | exact rfl | assumption); omega)
    | ((with_reducible apply lm_wJ); (first | exact rfl | assumption); omega)
    | ((with_reducible apply lm_wB); (first | exact rfl | assumption); omega)
    | ((with_reducible apply lm_sAl); (first | exact rfl | assumption); omega)
    | ((with_reducible apply lm_iW); decide))
      rw [lm_K1, lm_oo]
      exact K) 256 0 (by omega) m n ⟨rfl, fun _ _ => rfl, fun j hj => absurd hj (by omega)⟩
  subst en
  obtain ⟨m2, c2, p2⟩ := lm_u219 (sc := sc) (e := d) (n := n1) (x := x) (m := m1) (p := 187) (q := q) (v := v) (a := a) (d := bits) (F := fun i => (B - V i).toNat) hq rfl (fun g => hq7 g.symm) hb1 hb hv ha (fun i hi => ⟨h1 i hi, by have := hV i hi; omega⟩)
  refine ⟨m2, ?_, fun r r1 r2 => by rw [p2.1 r r2, h0 r r1], fun j hj => by rw [p2.2.1 j hj, h0 q hq7], p2.2.2⟩
  refine lm_cal_of (Y := lm_m235) rfl rfl (lm_e235_0 ?_)
  unfold lm_q235_0
  rw [lm_K0]
  refine k1 _ (lm_e235_3 ?_)
  unfold lm_q235_3
  rw [lm_K256]
  refine lm_geT (by omega) (by omega) (by omega) ?_
  repeat (first
    | ((with_reducible apply lm_sI); exact rfl)
    | ((with_reducible apply lm_sR); exact rfl)
    | ((with_reducible apply lm_sS); exact rfl; exact rfl)
    | ((with_reducible apply lm_sL); exact rfl)
    | ((with_reducible apply lm_sP); exact rfl; exact rfl)
    | ((with_reducible apply lm_sPL); exact rfl; exact rfl)
    | ((with_reducible apply lm_sAA); exact rfl; exact rfl)
    | ((with_reducible apply lm_sA); (first | exact rfl | assumption); omega)
    | ((with_reducible apply lm_sJ); (first | exact rfl | assumption); omega)
    | ((with_reducible apply lm_sB); (first | exact rfl | assumption); omega)
    | ((with_reducible apply lm_wA); (first | exact rfl | assumption); omega)
    | ((with_reducible apply lm_wJ); (first | exact rfl | assumption); omega)
    | ((with_reducible apply lm_wB); (first | exact rfl | assumption); omega)
    | ((with_reducible apply lm_sAl); (first | exact rfl | assumption); omega)
    | ((with_reducible apply lm_iW); decide))
  exact lm_cV c2 rfl
/-- smallBits -/
theorem lm_u234 (hs : s ≤ 2) (h17 : m 76 17 = Int32.ofNat s) : lm_cal (lm_sc xs) (d + 1) 234 [.ref 76] (lm_w m n x) = some (.ok (some (.int (Int32.ofNat (if lm_de s = 2 then 3 else 4)))), lm_w m n x) := by
  refine lm_cal_of (Y := lm_m234) rfl rfl (lm_e234_0 ?_)
  unfold lm_q234_0
  repeat (first
    | ((with_reducible apply lm_sI); exact rfl)
    | ((with_reducible apply lm_sR); exact rfl)
    | ((with_reducible apply lm_sS); exact rfl; exact rfl)
    | ((with_reducible apply lm_sL); exact rfl)
    | ((with_reducible apply lm_sP); exact rfl; exact rfl)
    | ((with_reducible apply lm_sPL); exact rfl; exact rfl)
    | ((with_reducible apply lm_sAA); exact rfl; exact rfl)
    | ((with_reducible apply lm_sA); (first | exact rfl | assumption); omega)
    | ((with_reducible apply lm_sJ); (first | exact rfl | assumption); omega)
    | ((with_reducible apply lm_sB); (first | exact rfl | assumption); omega)
    | ((with_reducible apply lm_wA); (first | exact rfl | assumption); omega)
    | ((with_reducible apply lm_wJ); (first | exact rfl | assumption); omega)
    | ((with_reducible apply lm_wB); (first | exact rfl | assumption); omega)
    | ((with_reducible apply lm_sAl); (first | exact rfl | assumption); omega)
    | ((with_reducible apply lm_iW); decide))
  simp only [Nat.reduceDiv, Nat.reduceMod]
  rw [h17]
  refine lm_eta hs ?_
  rw [lm_K2]
  rcases lm_de_2 hs with e0 | e0
  · rw [e0]
    exact lm_neF (by decide) (by decide) (fun g => g rfl) rfl
  · rw [e0]
    exact lm_neT (by decide) (by decide) (by decide) rfl
end LMDP
