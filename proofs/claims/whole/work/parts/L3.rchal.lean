/-! ===== dsaSign of the reference: arrays of booleans, a pack from a place on, the challenge ===== -/
section LMZB
variable {K : Nat} {D : List (Nat × List Nat)} {sc : lm_H} {m : lm_MI} {n : lm_ML} {x : lm_H × Nat × Nat} {q a : Nat} {β : Type} {r : Option (Except Nat β × lm_S)}
theorem lm_sZ {f : Int32 → lm_M β} {w : Nat} (h : lm_arW K D q = some (2, w)) (ha : a < w) (k : f (lm_b1 (m q a)) (lm_W K D m n x) = r) : lm_bind (lm_bald sc q (Int32.ofNat a)) f (lm_W K D m n x) = r := by
  have h1 := lm_ar_le h
  rw [← k]
  refine lm_bd_ok ?_
  unfold lm_bald lm_W
  dsimp only
  rw [lm_cellw (lm_shp_ar h)]
  show (if (2 = 1 ∨ 2 = 2) ∧ ¬ Int32.ofNat a < 0 ∧ (Int32.ofNat a).toNatClampNeg < ((List.range w).map fun i => lm_elm 2 (m q i)).length then some (Except.ok (((List.range w).map fun i => lm_elm 2 (m q i)).getD (Int32.ofNat a).toNatClampNeg 0), _) else none) = _
  rw [(lm_nn (a := a) (by omega)).2, lm_rg_len, if_pos ⟨Or.inr rfl, (lm_nn (a := a) (by omega)).1, ha⟩, lm_rg_get _ _ ha]
  rfl
theorem lm_wZ {f : Unit → lm_M β} {w : Nat} {v : Int32} (h : lm_arW K D q = some (2, w)) (ha : a < w) (k : f () (lm_W K D (lm_u m q a v) n x) = r) : lm_bind (lm_bast q (Int32.ofNat a) v) f (lm_W K D m n x) = r := by
  have h1 := lm_ar_le h
  have h2 := lm_shp_ar h
  rw [← k]
  refine lm_bd_ok ?_
  unfold lm_bast lm_W
  rw [if_pos (lm_q_lt h2)]
  dsimp only
  rw [lm_mk_get h2]
  show (if (2 = 1 ∨ 2 = 2) ∧ ¬ Int32.ofNat a < 0 ∧ (Int32.ofNat a).toNatClampNeg < ((List.range w).map fun i => lm_elm 2 (m q i)).length then some (Except.ok (), (_, _)) else none) = _
  rw [(lm_nn (a := a) (by omega)).2, lm_rg_len, if_pos ⟨Or.inr rfl, (lm_nn (a := a) (by omega)).1, ha⟩]
  rw [lm_mk_set (m' := lm_u m q a v) (n' := n) h2 ?_ (fun p hp => lm_u_row hp) (fun _ _ => rfl)]
  rw [lm_rg_set]
  show (Sum.inl (2, _) : lm_C) = _
  congr 3
  funext i
  show lm_b1 (lm_u m q a v q i) = if i = a then vp_nar .boolean v else lm_b1 (m q i)
  by_cases e : i = a
  · subst e
    rw [lm_u_eq, if_pos rfl]
    rfl
  · rw [if_neg e, lm_u_ne (fun g => e g.2)]
end LMZB
/-- the further numbers of a set -/
def lm_RE (s : Nat) (m : lm_MI) : Prop := m 203 44 = Int32.ofNat (lm_dt' s) ∧ m 203 45 = Int32.ofNat (lm_dg1 s) ∧ m 203 46 = Int32.ofNat (lm_dg2 s) ∧ m 203 47 = Int32.ofNat (lm_do s) ∧ m 203 48 = Int32.ofNat (lm_dsz s) ∧ m 203 49 = Int32.ofNat (lm_dw s)
theorem lm_RE.of {s : Nat} {m m' : lm_MI} (h : lm_RE s m) (e : ∀ j, 43 < j → j < 50 → m' 203 j = m 203 j) : lm_RE s m' := by
  unfold lm_RE at h ⊢
  rw [e 44 (by decide) (by decide), e 45 (by decide) (by decide), e 46 (by decide) (by decide), e 47 (by decide) (by decide), e 48 (by decide) (by decide), e 49 (by decide) (by decide)]
  exact h
theorem lm_dm2_RE {s : Nat} {m : lm_MI} : lm_RE s (lm_dm2 m s) := by
  refine ⟨?_, ?_, ?_, ?_, ?_, ?_⟩
  · unfold lm_dm2; rw [lm_fl_row (by decide)]; simp [lm_rd]
  · unfold lm_dm2; rw [lm_fl_row (by decide)]; simp [lm_rd]
  · unfold lm_dm2; rw [lm_fl_row (by decide)]; simp [lm_rd]
  · unfold lm_dm2; rw [lm_fl_row (by decide)]; simp [lm_rd]
  · unfold lm_dm2; rw [lm_fl_row (by decide)]; simp [lm_rd]
  · unfold lm_dm2; rw [lm_fl_row (by decide)]; simp [lm_rd]
section LMRV
variable {sc : lm_H} {C : lm_CX} {d s p q v : Nat} {m m0 : lm_MI} {n n0 : lm_ML} {x : lm_H × Nat × Nat}
/-- pack, from a on -/
theorem lm_u88a {a T bits : Nat} {B : Int} {V : Nat → Int} {S : Nat → Bool} (hq : lm_ar q = some (1, v)) (hv : v ≤ 70000) (hq3 : q ≠ 203) (hp : lm_ar p = some (0, 256)) (hp3 : p ≠ 203 ∧ p ≠ q) (hT : m 203 24 = Int32.ofNat T) (hav : a ≤ v) (hTv : T + bits * 256 ≤ 8 * (v - a)) (hb : bits ≤ 20) (hV : ∀ i, i < 256 → m p i = Int32.ofInt (V i) ∧ 0 ≤ B - V i ∧ B - V i < 1048576) (h : lm_PB m q a T S) (hS : ∀ i, i < 256 → ∀ k, k < bits → S (T + bits * i + k) = (B - V i).toNat.testBit k) : ∃ m', lm_cal sc (d + 2) 88 [.ref 203, .ref q, .int (Int32.ofNat a), .ref p, .int (Int32.ofInt B), .int (Int32.ofNat bits)] (lm_w m n x) = some (.ok none, lm_w m' n x) ∧ lm_PB m' q a (T + bits * 256) S ∧ m' 203 24 = Int32.ofNat (T + bits * 256) ∧ (∀ r, r ≠ 203 → r ≠ q → m' r = m r) ∧ (∀ j, j ≠ 24 → m' 203 j = m 203 j) ∧ ∀ j, j < a + T / 8 → m' q j = m q j := by
  obtain ⟨m', n', ⟨en, h1, h2, h3, h4, h5⟩, k1⟩ := lm_lp (sc := sc) (d := d + 1) (b := 256) (hs := lm_m88.2.2.2.2.1) (code := lm_reg lm_m88.2.2.2.2.2) (x := x) (fr := fun i => (3, [(0, .ref 203), (1, .ref q), (2, .int (Int32.ofNat a)), (3, .ref p), (4, .int (Int32.ofInt B)), (5, .int (Int32.ofNat bits)), (6, .int (Int32.ofNat i))], [])) (I := fun i m' n' => n' = n ∧ (∀ r, r ≠ 203 → r ≠ q → m' r = m r) ∧ (∀ j, j ≠ 24 → m' 203 j = m 203 j) ∧ m' 203 24 = Int32.ofNat (T + bits * i) ∧ lm_PB m' q a (T + bits * i) S ∧ ∀ j, j < a + T / 8 → m' q j = m q j) (fun i hi m1 n1 ⟨en, h1, h2, h3, h4, h5⟩ => by
    have hv' := hV i hi
    have hi2 : bits * i + bits ≤ bits * 256 := by
      rw [← Nat.mul_succ]
      exact Nat.mul_le_mul_left _ hi
    obtain ⟨m2, c2, p2, t2, f2, g2, o2⟩ := lm_u74 (sc := sc) (e := d) (m := m1) (n := n1) (x := x) (q := q) (v := v) (a := a) (d := bits) (w := Int32.ofNat (B - V i).toNat) hq hv hq3 h3 (by omega) hav hb h4 (fun k hk => by
      rw [lm_nb (by omega), hS i hi k hk])
    rw [Nat.add_assoc, ← Nat.mul_succ] at p2 t2
    refine ⟨m2, n1, ⟨en, fun r r1 r2 => (f2 r r1 r2).trans (h1 r r1 r2), fun j hj => (g2 j hj).trans (h2 j hj), t2, p2, fun j hj => by rw [o2 j (by omega), h5 j hj]⟩, fun R K => lm_e88_3 ?_⟩
    unfold lm_q88_3
    rw [lm_K256]
    refine lm_geF (by omega) (by omega) (by omega) ?_
    repeat (first
    | ((with_reducible apply lm_sI); exact rfl)
    | ((with_reducible apply lm_sR); exact rfl)
    | ((with_reducible apply lm_sS); exact rfl; exact rfl)
    | ((with_reducible apply lm_sL); exact rfl)
    | ((with_reducible apply lm_sP); exact rfl; exact rfl)
    | ((with_reducible apply lm_sPL); exact rfl; exact rfl)
    | ((with_reducible apply lm_sAA); exact rfl; exact rfl)
    | ((with_reducible apply lm_sA); (first | exact rfl | assumption); omega)
    | ((with_reducible apply lm_sJ); (first | exact rfl | assumption); omega)
    | ((with_reducible apply lm_sB); (first | exact rfl | assumption); omega)
    | ((with_reducible apply lm_wA); (first | exact rfl | assumption); omega)
    | ((with_reducible apply lm_wJ); (first | exact rfl | assumption); omega)
    | ((with_reducible apply lm_wB); (first | exact rfl | assumption); omega)
    | ((with_reducible apply lm_sAl); (first | exact rfl | assumption); omega)
    | ((with_reducible apply lm_iW); decide))
    rw [h1 p hp3.1 hp3.2, hv'.1, lm_iS, show Int32.ofInt (B - V i) = Int32.ofNat (B - V i).toNat by rw [lm_oN, Int.toNat_of_nonneg hv'.2.1]]
    refine lm_cV c2 ?_
    rw [lm_K1, lm_oo]
    exact K) 256 0 (by omega) m n ⟨rfl, fun _ _ _ => rfl, fun _ _ => rfl, hT, h, fun _ _ => rfl⟩
  subst en
  refine ⟨m', ?_, h4, h3, h1, h2, h5⟩
  refine lm_cal_of (Y := lm_m88) rfl rfl (lm_e88_0 ?_)
  unfold lm_q88_0
  rw [lm_K0]
  refine k1 _ (lm_e88_3 ?_)
  unfold lm_q88_3
  rw [lm_K256]
  exact lm_geT (by omega) (by omega) (by omega) rfl
/-- challenge -/
theorem lm_u105 {b0 : Nat} {F : Nat → Nat → Int} {V : Nat → Int32} (hs : s ≤ 2) (hb0 : b0 + 8 ≤ 48) (hR : lm_RD C s m n) (hE : lm_RE s m) (hq : lm_ar q = some (1, v)) (hv : v ≤ 70000) (hqv : lm_dsz s ≤ v) (hq3 : q ≠ 203 ∧ q ≠ 227 ∧ q ≠ 221 ∧ q ≠ 327) (hF : ∀ i, i < lm_dk s → ∀ c, c < 256 → m (270 + (b0 + i)) c = Int32.ofInt (F i c) ∧ 0 ≤ F i c ∧ F i c < ((2 ^ lm_hb s : Nat) : Int)) (hV : ∀ i, i < 64 → lm_b8 (m 330 i) = lm_b8 (V i)) : ∃ m' n', lm_cal sc (d + 6) 105 [.ref 203, .int (Int32.ofNat b0), .ref q] (lm_w m n x) = some (.ok none, lm_w m' n' x) ∧ (∀ r, r ≠ 203 → r ≠ 227 → r ≠ 327 → r ≠ q → m' r = m r) ∧ lm_fB m n m' n' ∧ ∀ t, t < lm_dsz s → m' q t = lm_Hm C 12 (lm_cG V F (lm_hb s)) (64 + 32 * lm_hb s * lm_dk s) t := by
  have hkl := lm_dkl hs
  have hpar := lm_dpar s hs
  have hp6 : 2 ^ lm_hb s ≤ 64 := Nat.pow_le_pow_right (n := 2) (j := 6) (by decide) (by omega)
  have hkb : ∀ i, i ≤ lm_dk s → lm_hb s * (256 * i) ≤ 6 * (256 * 8) := fun i hi => Nat.mul_le_mul (by omega) (by omega)
  generalize eM0 : lm_u m 203 24 (Int32.ofNat 0) = M0
  have r0 : ∀ r, r ≠ 203 → M0 r = m r := fun r hr => by rw [← eM0, lm_u_row hr]
  have f0 : ∀ j, j ≠ 24 → M0 203 j = m 203 j := fun j hj => by rw [← eM0, lm_u_ne (fun g => hj g.2)]
  obtain ⟨m1, n1, ⟨en, g1, g2, g3, g4⟩, k1⟩ := lm_lp (sc := sc) (d := d + 5) (b := lm_dk s) (hs := lm_m105.2.2.2.2.1) (code := lm_reg lm_m105.2.2.2.2.2) (x := x) (fr := fun i => (25, [(0, .ref 203), (1, .int (Int32.ofNat b0)), (2, .ref q), (3, .int (Int32.ofNat (lm_hb s))), (4, .int (Int32.ofNat i))], [])) (I := fun i m' n' => n' = n ∧ (∀ r, r ≠ 203 → r ≠ 327 → m' r = m r) ∧ (∀ j, j ≠ 24 → m' 203 j = m 203 j) ∧ m' 203 24 = Int32.ofNat (lm_hb s * (256 * i)) ∧ lm_PB m' 327 0 (lm_hb s * (256 * i)) (lm_ts (lm_Fg F) (lm_hb s))) (fun i hi m1 n1 ⟨en, g1, g2, g3, g4⟩ => by
    subst en
    have hki := hkb (i + 1) (by omega)
    obtain ⟨m2, n2, ⟨en, h1, h2, h3, h4⟩, k2⟩ := lm_lp (sc := sc) (d := d + 5) (b := 256) (hs := lm_m105.2.2.2.2.1) (code := lm_reg lm_m105.2.2.2.2.2) (x := x) (fr := fun c => (37, [(0, .ref 203), (1, .int (Int32.ofNat b0)), (2, .ref q), (3, .int (Int32.ofNat (lm_hb s))), (4, .int (Int32.ofNat i)), (5, .int (Int32.ofNat c))], [])) (I := fun c m' n' => n' = n1 ∧ (∀ r, r ≠ 203 → r ≠ 327 → m' r = m r) ∧ (∀ j, j ≠ 24 → m' 203 j = m 203 j) ∧ m' 203 24 = Int32.ofNat (lm_hb s * (256 * i + c)) ∧ lm_PB m' 327 0 (lm_hb s * (256 * i + c)) (lm_ts (lm_Fg F) (lm_hb s))) (fun c hc m2 n2 ⟨en, h1, h2, h3, h4⟩ => by
      have hf := hF i hi c hc
      have hic : lm_hb s * (256 * i + c) + lm_hb s ≤ 6 * (256 * 8) := by
        rw [← Nat.mul_succ]
        exact Nat.mul_le_mul (by omega) (by omega)
      have aY := lm_arY (b0 + i) (by omega)
      have ef : m2 (270 + (b0 + i)) c = Int32.ofNat (F i c).toNat := by rw [h1 _ (by omega) (by omega), hf.1, lm_oN, Int.toNat_of_nonneg hf.2.1]
      obtain ⟨m4, c4, p4, t4, f4, o4, _⟩ := lm_put1 (sc := sc) (d := d + 4) (m := m2) (n := n2) (x := x) (q := 327) (v := 16384) (F := lm_Fg F) (c := 256 * i + c) (w := lm_hb s) rfl (by decide) (by decide) h3 (by omega) (by omega) (by omega) h4 (by rw [lm_Fg_at hc]; omega)
      rw [lm_Fg_at hc] at c4
      refine ⟨m4, n2, ⟨en, fun r r1 r2 => (f4 r r1 r2).trans (h1 r r1 r2), fun j hj => (o4 j hj).trans (h2 j hj), t4, p4⟩, fun R K => lm_e105_37 ?_⟩
      unfold lm_q105_37
      rw [lm_K256, lm_K0, lm_oo]
      refine lm_geF (by omega) (by omega) (by omega) ?_
      repeat (first
    | ((with_reducible apply lm_sI); exact rfl)
    | ((with_reducible apply lm_sR); exact rfl)
    | ((with_reducible apply lm_sS); exact rfl; exact rfl)
    | ((with_reducible apply lm_sL); exact rfl)
    | ((with_reducible apply lm_sP); exact rfl; exact rfl)
    | ((with_reducible apply lm_sPL); exact rfl; exact rfl)
    | ((with_reducible apply lm_sAA); exact rfl; exact rfl)
    | ((with_reducible apply lm_sA); (first | exact rfl | assumption); omega)
    | ((with_reducible apply lm_sJ); (first | exact rfl | assumption); omega)
    | ((with_reducible apply lm_sB); (first | exact rfl | assumption); omega)
    | ((with_reducible apply lm_wA); (first | exact rfl | assumption); omega)
    | ((with_reducible apply lm_wJ); (first | exact rfl | assumption); omega)
    | ((with_reducible apply lm_wB); (first | exact rfl | assumption); omega)
    | ((with_reducible apply lm_sAl); (first | exact rfl | assumption); omega)
    | ((with_reducible apply lm_iW); decide))
      refine lm_sAA rfl (lm_roY (b0 + i) (by omega)) ?_
      repeat (first
    | ((with_reducible apply lm_sI); exact rfl)
    | ((with_reducible apply lm_sR); exact rfl)
    | ((with_reducible apply lm_sS); exact rfl; exact rfl)
    | ((with_reducible apply lm_sL); exact rfl)
    | ((with_reducible apply lm_sP); exact rfl; exact rfl)
    | ((with_reducible apply lm_sPL); exact rfl; exact rfl)
    | ((with_reducible apply lm_sAA); exact rfl; exact rfl)
    | ((with_reducible apply lm_sA); (first | exact rfl | assumption); omega)
    | ((with_reducible apply lm_sJ); (first | exact rfl | assumption); omega)
    | ((with_reducible apply lm_sB); (first | exact rfl | assumption); omega)
    | ((with_reducible apply lm_wA); (first | exact rfl | assumption); omega)
    | ((with_reducible apply lm_wJ); (first | exact rfl | assumption); omega)
    | ((with_reducible apply lm_wB); (first | exact rfl | assumption); omega)
    | ((with_reducible apply lm_sAl); (first | exact rfl | assumption); omega)
    | ((with_reducible apply lm_iW); decide))
      rw [ef]
      refine lm_cV c4 ?_
      rw [lm_K1, lm_oo]
      exact K) 256 0 (by omega) m1 n1 ⟨rfl, g1, g2, g3, g4⟩
    subst en
    rw [show 256 * i + 256 = 256 * (i + 1) by omega] at h3 h4
    refine ⟨m2, n2, ⟨rfl, h1, h2, h3, h4⟩, fun R K => lm_e105_25 ?_⟩
    have e32 : m1 203 32 = Int32.ofNat (lm_dk s) := by rw [g2 32 (by decide)]; exact hR.2.1
    unfold lm_q105_25
    repeat (first
    | ((with_reducible apply lm_sI); exact rfl)
    | ((with_reducible apply lm_sR); exact rfl)
    | ((with_reducible apply lm_sS); exact rfl; exact rfl)
    | ((with_reducible apply lm_sL); exact rfl)
    | ((with_reducible apply lm_sP); exact rfl; exact rfl)
    | ((with_reducible apply lm_sPL); exact rfl; exact rfl)
    | ((with_reducible apply lm_sAA); exact rfl; exact rfl)
    | ((with_reducible apply lm_sA); (first | exact rfl | assumption); omega)
    | ((with_reducible apply lm_sJ); (first | exact rfl | assumption); omega)
    | ((with_reducible apply lm_sB); (first | exact rfl | assumption); omega)
    | ((with_reducible apply lm_wA); (first | exact rfl | assumption); omega)
    | ((with_reducible apply lm_wJ); (first | exact rfl | assumption); omega)
    | ((with_reducible apply lm_wB); (first | exact rfl | assumption); omega)
    | ((with_reducible apply lm_sAl); (first | exact rfl | assumption); omega)
    | ((with_reducible apply lm_iW); decide))
    simp only [Nat.reduceDiv, Nat.reduceMod]
    rw [e32]
    refine lm_geF (by omega) (by omega) (by omega) ?_
    rw [lm_K0]
    refine k2 _ (lm_e105_37 ?_)
    unfold lm_q105_37
    rw [lm_K256]
    refine lm_geT (by omega) (by omega) (by omega) ?_
    rw [lm_K1, lm_oo]
    exact K) (lm_dk s) 0 (by omega) M0 n ⟨rfl, fun r q1 _ => r0 r q1, f0, by rw [← eM0, lm_u_eq]; rfl, ⟨fun t ht => absurd ht (by omega), fun t _ _ h => absurd (show lm_hb s * (256 * 0) % 8 = 0 by omega) h⟩⟩
  subst en
  have B1 : lm_fB m n1 m1 n1 := .p g2
  have C1 : lm_cx m1 n1 = C := (B1.cx (g1 221 (by decide) (by decide))).trans hR.1
  have hk8 := hkb (lm_dk s) (by omega)
  have e8 : lm_hb s * (256 * lm_dk s) = 8 * (32 * lm_hb s * lm_dk s) := by
    rw [show (256 : Nat) = 8 * 32 from rfl, Nat.mul_assoc, Nat.mul_left_comm, ← Nat.mul_assoc (lm_hb s), Nat.mul_comm (lm_hb s) 32]
  generalize eG : lm_cG V F (lm_hb s) = G
  obtain ⟨m2, n2, c2, s2, f2⟩ := lm_rS (sc := sc) (d := d + 3) (m := m1) (n := n1) (x := x) (k := 12) (G := G) C1 (by decide) (by decide)
  have C2 := f2.cx.trans C1
  obtain ⟨m3, n3, c3, s3, f3⟩ := lm_rA (sc := sc) (d := d + 1) (m := m2) (n := n2) (x := x) (k := 12) (q := 330) (v := 64) (a := 0) (l := 64) (L := 0) (G := G) C2 (by decide) (by decide) rfl (by decide) (by decide) (fun t ht => by
    rw [f2.1 330 (by decide) (by decide), g1 330 (by decide) (by decide), Nat.zero_add, hV t ht, ← eG, lm_cG, if_pos ht]) s2
  have C3 := f3.cx.trans C2
  rw [Nat.zero_add] at s3
  obtain ⟨m4, n4, c4, s4, f4⟩ := lm_rA (sc := sc) (d := d + 1) (m := m3) (n := n3) (x := x) (k := 12) (q := 327) (v := 16384) (a := 0) (l := 32 * lm_hb s * lm_dk s) (L := 64) (G := G) C3 (by decide) (by decide) rfl (by omega) (by decide) (fun t ht => by
    rw [(f2.tr f3).1 327 (by decide) (by decide), Nat.zero_add, ← eG, lm_cG, if_neg (by omega), Nat.add_sub_cancel_left]
    refine lm_gp_yb ?_ lm_pkB_lt
    have := lm_PB_yb g4 (j := t) (by omega)
    rw [Nat.zero_add] at this
    rw [this, lm_pkB_g (by omega)]) s3
  have C4 := f4.cx.trans C3
  have F4 := f2.tr (f3.tr f4)
  obtain ⟨m5, n5, c5, f5⟩ := lm_rG (sc := sc) (d := d) (m := m4) (n := n4) (x := x) (k := 12) (q := q) (v := v) (a := 0) (l := lm_dsz s) C4 (by decide) ⟨hq3.1, hq3.2.1, hq3.2.2.1⟩ hq (by omega) hv (fun h => absurd h (by decide)) s4
  have F5 := F4.tr f5
  refine ⟨lm_fil m5 q 0 (0 + lm_dsz s) (fun i => lm_Hm C 12 G (64 + 32 * lm_hb s * lm_dk s) (i - 0)), n5, ?_, fun r r1 r2 r3 r4 => by rw [lm_fl_row r4, F5.1 r r1 r2, g1 r r1 r3], B1.tr (F5.G.B.tr (.of (lm_fl_row (fun g => hq3.1 g.symm)))), fun t ht => by rw [lm_fl_in (by omega), Nat.sub_zero]⟩
  clear g4 hF s2 s3 s4
  have e32 : ∀ M : lm_MI, (∀ j, j ≠ 18 → j ≠ 19 → j ≠ 20 → M 203 j = m1 203 j) → M 203 32 = Int32.ofNat (lm_dk s) := fun M e => by rw [e 32 (by decide) (by decide) (by decide), g2 32 (by decide)]; exact hR.2.1
  have fin : lm_rn sc (d + 5) lm_m105.2.2.2.2.1 (lm_reg lm_m105.2.2.2.2.2) (25, [(0, .ref 203), (1, .int (Int32.ofNat b0)), (2, .ref q), (3, .int (Int32.ofNat (lm_hb s))), (4, .int (Int32.ofNat 0))], []) (lm_w M0 n1 x) = some (.ok none, lm_w (lm_fil m5 q 0 (0 + lm_dsz s) (fun i => lm_Hm C 12 G (64 + 32 * lm_hb s * lm_dk s) (i - 0))) n5 x) := by
    refine k1 _ (lm_e105_25 ?_)
    unfold lm_q105_25
    repeat (first
    | ((with_reducible apply lm_sI); exact rfl)
    | ((with_reducible apply lm_sR); exact rfl)
    | ((with_reducible apply lm_sS); exact rfl; exact rfl)
    | ((with_reducible apply lm_sL); exact rfl)
    | ((with_reducible apply lm_sP); exact rfl; exact rfl)
    | ((with_reducible apply lm_sPL); exact rfl; exact rfl)
    | ((with_reducible apply lm_sAA); exact rfl; exact rfl)
    | ((with_reducible apply lm_sA); (first | exact rfl | assumption); omega)
    | ((with_reducible apply lm_sJ); (first | exact rfl | assumption); omega)
    | ((with_reducible apply lm_sB); (first | exact rfl | assumption); omega)
    | ((with_reducible apply lm_wA); (first | exact rfl | assumption); omega)
    | ((with_reducible apply lm_wJ); (first | exact rfl | assumption); omega)
    | ((with_reducible apply lm_wB); (first | exact rfl | assumption); omega)
    | ((with_reducible apply lm_sAl); (first | exact rfl | assumption); omega)
    | ((with_reducible apply lm_iW); decide))
    simp only [Nat.reduceDiv, Nat.reduceMod]
    rw [e32 m1 (fun _ _ _ _ => rfl)]
    refine lm_geT (by omega) (by omega) (by omega) ?_
    rw [lm_K12, lm_K0, lm_K64, lm_K32, lm_om]
    repeat (first
    | ((with_reducible apply lm_sI); exact rfl)
    | ((with_reducible apply lm_sR); exact rfl)
    | ((with_reducible apply lm_sS); exact rfl; exact rfl)
    | ((with_reducible apply lm_sL); exact rfl)
    | ((with_reducible apply lm_sP); exact rfl; exact rfl)
    | ((with_reducible apply lm_sPL); exact rfl; exact rfl)
    | ((with_reducible apply lm_sAA); exact rfl; exact rfl)
    | ((with_reducible apply lm_sA); (first | exact rfl | assumption); omega)
    | ((with_reducible apply lm_sJ); (first | exact rfl | assumption); omega)
    | ((with_reducible apply lm_sB); (first | exact rfl | assumption); omega)
    | ((with_reducible apply lm_wA); (first | exact rfl | assumption); omega)
    | ((with_reducible apply lm_wJ); (first | exact rfl | assumption); omega)
    | ((with_reducible apply lm_wB); (first | exact rfl | assumption); omega)
    | ((with_reducible apply lm_sAl); (first | exact rfl | assumption); omega)
    | ((with_reducible apply lm_iW); decide))
    refine lm_cV c2 ?_
    repeat (first
    | ((with_reducible apply lm_sI); exact rfl)
    | ((with_reducible apply lm_sR); exact rfl)
    | ((with_reducible apply lm_sS); exact rfl; exact rfl)
    | ((with_reducible apply lm_sL); exact rfl)
    | ((with_reducible apply lm_sP); exact rfl; exact rfl)
    | ((with_reducible apply lm_sPL); exact rfl; exact rfl)
    | ((with_reducible apply lm_sAA); exact rfl; exact rfl)
    | ((with_reducible apply lm_sA); (first | exact rfl | assumption); omega)
    | ((with_reducible apply lm_sJ); (first | exact rfl | assumption); omega)
    | ((with_reducible apply lm_sB); (first | exact rfl | assumption); omega)
    | ((with_reducible apply lm_wA); (first | exact rfl | assumption); omega)
    | ((with_reducible apply lm_wJ); (first | exact rfl | assumption); omega)
    | ((with_reducible apply lm_wB); (first | exact rfl | assumption); omega)
    | ((with_reducible apply lm_sAl); (first | exact rfl | assumption); omega)
    | ((with_reducible apply lm_iW); decide))
    refine lm_cV c3 ?_
    repeat (first
    | ((with_reducible apply lm_sI); exact rfl)
    | ((with_reducible apply lm_sR); exact rfl)
    | ((with_reducible apply lm_sS); exact rfl; exact rfl)
    | ((with_reducible apply lm_sL); exact rfl)
    | ((with_reducible apply lm_sP); exact rfl; exact rfl)
    | ((with_reducible apply lm_sPL); exact rfl; exact rfl)
    | ((with_reducible apply lm_sAA); exact rfl; exact rfl)
    | ((with_reducible apply lm_sA); (first | exact rfl | assumption); omega)
    | ((with_reducible apply lm_sJ); (first | exact rfl | assumption); omega)
    | ((with_reducible apply lm_sB); (first | exact rfl | assumption); omega)
    | ((with_reducible apply lm_wA); (first | exact rfl | assumption); omega)
    | ((with_reducible apply lm_wJ); (first | exact rfl | assumption); omega)
    | ((with_reducible apply lm_wB); (first | exact rfl | assumption); omega)
    | ((with_reducible apply lm_sAl); (first | exact rfl | assumption); omega)
    | ((with_reducible apply lm_iW); decide))
    simp only [Nat.reduceDiv, Nat.reduceMod]
    rw [e32 m3 (f2.tr f3).2.1, lm_om]
    refine lm_cV c4 ?_
    repeat (first
    | ((with_reducible apply lm_sI); exact rfl)
    | ((with_reducible apply lm_sR); exact rfl)
    | ((with_reducible apply lm_sS); exact rfl; exact rfl)
    | ((with_reducible apply lm_sL); exact rfl)
    | ((with_reducible apply lm_sP); exact rfl; exact rfl)
    | ((with_reducible apply lm_sPL); exact rfl; exact rfl)
    | ((with_reducible apply lm_sAA); exact rfl; exact rfl)
    | ((with_reducible apply lm_sA); (first | exact rfl | assumption); omega)
    | ((with_reducible apply lm_sJ); (first | exact rfl | assumption); omega)
    | ((with_reducible apply lm_sB); (first | exact rfl | assumption); omega)
    | ((with_reducible apply lm_wA); (first | exact rfl | assumption); omega)
    | ((with_reducible apply lm_wJ); (first | exact rfl | assumption); omega)
    | ((with_reducible apply lm_wB); (first | exact rfl | assumption); omega)
    | ((with_reducible apply lm_sAl); (first | exact rfl | assumption); omega)
    | ((with_reducible apply lm_iW); decide))
    simp only [Nat.reduceDiv, Nat.reduceMod]
    rw [F4.2.1 48 (by decide) (by decide) (by decide), g2 48 (by decide), hE.2.2.2.2.1]
    exact lm_cV c5 rfl
  refine lm_cal_of (Y := lm_m105) rfl rfl (lm_e105_0 ?_)
  unfold lm_q105_0
  rw [lm_K0]
  repeat (first
    | ((with_reducible apply lm_sI); exact rfl)
    | ((with_reducible apply lm_sR); exact rfl)
    | ((with_reducible apply lm_sS); exact rfl; exact rfl)
    | ((with_reducible apply lm_sL); exact rfl)
    | ((with_reducible apply lm_sP); exact rfl; exact rfl)
    | ((with_reducible apply lm_sPL); exact rfl; exact rfl)
    | ((with_reducible apply lm_sAA); exact rfl; exact rfl)
    | ((with_reducible apply lm_sA); (first | exact rfl | assumption); omega)
    | ((with_reducible apply lm_sJ); (first | exact rfl | assumption); omega)
    | ((with_reducible apply lm_sB); (first | exact rfl | assumption); omega)
    | ((with_reducible apply lm_wA); (first | exact rfl | assumption); omega)
    | ((with_reducible apply lm_wJ); (first | exact rfl | assumption); omega)
    | ((with_reducible apply lm_wB); (first | exact rfl | assumption); omega)
    | ((with_reducible apply lm_sAl); (first | exact rfl | assumption); omega)
    | ((with_reducible apply lm_iW); decide))
  simp only [Nat.reduceDiv, Nat.reduceMod]
  rw [eM0, f0 46 (by decide), hE.2.2.1]
  have e21 : ∀ w, w = Int32.ofNat (lm_hb s) → lm_rn sc (d + 5) lm_m105.2.2.2.2.1 (lm_reg lm_m105.2.2.2.2.2) (21, [(0, .ref 203), (1, .int (Int32.ofNat b0)), (2, .ref q)], [.int w]) (lm_w M0 n1 x) = some (.ok none, lm_w (lm_fil m5 q 0 (0 + lm_dsz s) (fun i => lm_Hm C 12 G (64 + 32 * lm_hb s * lm_dk s) (i - 0))) n5 x) := by
    intro w hw
    subst hw
    refine lm_e105_21 ?_
    unfold lm_q105_21
    rw [lm_K0]
    exact fin
  clear fin
  match s, hs with
  | 0, _ => exact lm_iT (show ¬ Int32.ofNat 95232 = Int32.ofInt 261888 by decide) (e21 _ rfl)
  | 1, _ => exact lm_iF (show ¬ ¬ Int32.ofNat 261888 = Int32.ofInt 261888 by decide) (e21 _ rfl)
  | 2, _ => exact lm_iF (show ¬ ¬ Int32.ofNat 261888 = Int32.ofInt 261888 by decide) (e21 _ rfl)
end LMRV
