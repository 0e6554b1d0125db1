/-! ===== SLH: what the trees hash; the class's chain ===== -/
abbrev lm_WT : Type := lm_CX × Nat × (Nat → Int32) × (Nat → Int32) × Int32 × Int32 × Int32
def lm_hF (W : lm_WT) (ty u y z : Int32) (X : Nat → Int32) (l i : Nat) : Int32 := lm_b8 (ln_tH W.1 W.2.1 W.2.2.1 (ln_ad (lm_sk W.2.1) W.2.2.2.2.1 W.2.2.2.2.2.1 W.2.2.2.2.2.2 ty u y z) X l i)
def lm_hch (W : lm_WT) (u y : Int32) (i : Nat) (X : Nat → Int32) : Nat → Nat → Int32
  | 0 => X
  | k + 1 => lm_hF W (Int32.ofNat 0) u y (Int32.ofNat (i + k)) (lm_hch W u y i X k) (lm_sn W.2.1)
def lm_hcs (W : lm_WT) (u : Int32) (j : Nat) : Nat → Int32 := lm_hF W (Int32.ofNat 5) u (Int32.ofNat j) (Int32.ofNat 0) W.2.2.2.1 (lm_sn W.2.1)
def lm_hen (W : lm_WT) (u : Int32) (t : Nat) : Int32 := lm_hch W u (Int32.ofNat (t / lm_sn W.2.1)) 0 (lm_hcs W u (t / lm_sn W.2.1)) 15 (t % lm_sn W.2.1)
def lm_hlf (W : lm_WT) (u : Int32) : Nat → Int32 := lm_hF W (Int32.ofNat 1) u (Int32.ofNat 0) (Int32.ofNat 0) (lm_hen W u) (lm_cw W.2.1 * lm_sn W.2.1)
def lm_hfs (W : lm_WT) (u z : Int32) : Nat → Int32 := lm_hF W (Int32.ofNat 6) u (Int32.ofNat 0) z W.2.2.2.1 (lm_sn W.2.1)
def lm_hff (W : lm_WT) (u z : Int32) : Nat → Int32 := lm_hF W (Int32.ofNat 3) u (Int32.ofNat 0) z (lm_hfs W u z) (lm_sn W.2.1)
theorem lm_hF_b {W : lm_WT} {ty u y z : Int32} {X : Nat → Int32} {l i : Nat} : lm_b8 (lm_hF W ty u y z X l i) = lm_hF W ty u y z X l i := by
  unfold lm_hF
  rw [lm_b8b8]
theorem lm_tH_x {C : lm_CX} {s l i : Nat} {P A X X' : Nat → Int32} (h : ∀ t, t < l → X t = X' t) : ln_tH C s P A X l i = ln_tH C s P A X' l i := by
  unfold ln_tH
  refine lm_Hm_ext fun t ht => ?_
  unfold lm_tG
  by_cases c0 : t < lm_sn s
  · rw [if_pos c0, if_pos c0]
  · rw [if_neg c0, if_neg c0]
    by_cases c1 : t < lm_pre (lm_kl s l) (lm_sn s)
    · rw [if_pos c1, if_pos c1]
    · rw [if_neg c1, if_neg c1]
      by_cases c2 : t < lm_pre (lm_kl s l) (lm_sn s) + lm_az s
      · rw [if_pos c2, if_pos c2]
      · rw [if_neg c2, if_neg c2, h _ (by omega)]
theorem lm_hF_x {W : lm_WT} {ty u y z : Int32} {X X' : Nat → Int32} {l i : Nat} (h : ∀ t, t < l → X t = X' t) : lm_hF W ty u y z X l i = lm_hF W ty u y z X' l i := by
  unfold lm_hF
  rw [lm_tH_x h]
theorem lm_hch_x {W : lm_WT} {u y : Int32} {i : Nat} {X X' : Nat → Int32} (h : ∀ t, t < lm_sn W.2.1 → X t = X' t) : ∀ k t, t < lm_sn W.2.1 → lm_hch W u y i X k t = lm_hch W u y i X' k t := by
  intro k
  induction k with
  | zero => exact h
  | succ k ih => intro t _; exact lm_hF_x ih
/-- the class's state between the hashes of a tree -/
def lm_SX (W : lm_WT) (m : lm_MI) (n : lm_ML) : Prop := lm_SM W.1 W.2.1 W.2.2.1 m n ∧ lm_AH (lm_sk W.2.1) W.2.2.2.2.1 W.2.2.2.2.2.1 W.2.2.2.2.2.2 (m 195) ∧ ∀ t, t < lm_sn W.2.1 → lm_b8 (m 196 t) = W.2.2.2.1 t
theorem lm_ctr4_s : ∀ j, j < 16 → ∀ t, t < 3 → lm_ctr4 (Int32.ofNat j) t = 0 := by decide +kernel
theorem ln_ad_z {sk : Bool} {L th tl ty u y : Int32} {j j' t : Nat} (hj : j < 16) (hj' : j' < 16) (ht : t < lm_so' sk + 12) : ln_ad sk L th tl ty u y (Int32.ofNat j) t = ln_ad sk L th tl ty u y (Int32.ofNat j') t := by
  unfold ln_ad
  by_cases c0 : t < lm_so' sk
  · rw [if_pos c0, if_pos c0]
  · rw [if_neg c0, if_neg c0]
    by_cases c1 : t = lm_so' sk
    · rw [if_pos c1, if_pos c1]
    · rw [if_neg c1, if_neg c1]
      by_cases c2 : t < lm_so' sk + 5
      · rw [if_pos c2, if_pos c2]
      · rw [if_neg c2, if_neg c2]
        by_cases c3 : t < lm_so' sk + 9
        · rw [if_pos c3, if_pos c3]
        · rw [if_neg c3, if_neg c3, lm_ctr4_s j hj _ (by omega), lm_ctr4_s j' hj' _ (by omega)]
theorem ln_ad_l {sk : Bool} {L th tl ty u y z : Int32} : ln_ad sk L th tl ty u y z (lm_so' sk + 12) = lm_b8 z := by
  unfold ln_ad
  rw [if_neg (by omega), if_neg (by omega), if_neg (by omega), if_neg (by omega), show lm_so' sk + 12 - (lm_so' sk + 9) = 3 by omega]
  rfl
section LMST
variable {xs : List Int32} {d : Nat} {W : lm_WT} {m m' : lm_MI} {n n' : lm_ML} {x : lm_H × Nat × Nat} {X : Nat → Int32} {ty u y z : Int32} {q v a l p w b : Nat}
theorem lm_SX.keep (h : lm_SX W m n) (e : m' 194 = m 194) (e5 : m' 195 = m 195) (e6 : m' 196 = m 196) (e1 : ∀ q, 4 < q → q < 23 → m' q = m q) (e2 : ∀ q, 4 < q → q < 23 → n' q = n q) : lm_SX W m' n' := ⟨h.1.keep e e1 e2, by rw [e5]; exact h.2.1, fun t ht => by rw [e6]; exact h.2.2 t ht⟩
theorem lm_ar_194 {p w : Nat} (hp : lm_ar p = some (1, w)) : p ≠ 194 := fun e => by
  rw [e] at hp
  exact absurd (show (none : Option (Nat × Nat)) = some (1, w) from hp) (by intro g; cases g)
/-- an address is named, bytes are hashed under it -/
theorem lm_nh (hC : lm_Cok xs W.1) (hs : W.2.1 ≤ 11) (h : lm_SX W m n) (hq : lm_ar q = some (1, v)) (gq : 22 < q) (gq5 : q ≠ 195) (hav : a + l ≤ v) (hv : v ≤ 70000) (hX : ∀ t, t < l → lm_b8 (m q (a + t)) = X t) (hp : lm_ar p = some (1, w)) (gp : 22 < p) (gp5 : p ≠ 195) (gp6 : p ≠ 196) (hbw : b + lm_sn W.2.1 ≤ w) (hw : w ≤ 70000) : ∃ m1 m2 n2, lm_cal (lm_sc xs) (d + 5) 263 [.ref 194, .int ty, .int u, .int y, .int z] (lm_w m n x) = some (.ok none, lm_w m1 n x) ∧ lm_cal (lm_sc xs) (d + 5) 264 [.ref 194, .ref q, .int (Int32.ofNat a), .int (Int32.ofNat l), .ref p, .int (Int32.ofNat b)] (lm_w m1 n x) = some (.ok none, lm_w m2 n2 x) ∧ m1 194 = m 194 ∧ (∀ r, (r < 5 ∨ 22 < r) → r ≠ 195 → r ≠ p → m2 r = m r) ∧ lm_fN m n m2 n2 ∧ lm_SX W m2 n2 ∧ (∀ i, i < b ∨ b + lm_sn W.2.1 ≤ i → m2 p i = m p i) ∧ ∀ i, i < lm_sn W.2.1 → lm_b8 (m2 p (b + i)) = lm_hF W ty u y z X l i := by
  obtain ⟨m1, c1, f1, a1⟩ := lm_u263 (sc := lm_sc xs) (d := d + 3) (m := m) (n := n) (x := x) (s := W.2.1) (ty := ty) (u := u) (y := y) (z := z) h.1.1.1 h.2.1
  have SM1 : lm_SM W.1 W.2.1 W.2.2.1 m1 n := h.1.keep (f1 194 (by decide)) (fun r _ _ => f1 r (by omega)) (fun _ _ _ => rfl)
  obtain ⟨m2, n2, c2, f2, g2, S2, o2, v2⟩ := lm_u264 (d := d) (x := x) (P := W.2.2.1) (A := ln_ad (lm_sk W.2.1) W.2.2.2.2.1 W.2.2.2.2.2.1 W.2.2.2.2.2.2 ty u y z) (X := X) hC SM1 hs (fun t ht => a1 t ht) hq gq hav hv (fun t ht => by rw [f1 q gq5]; exact hX t ht) hp gp hbw hw
  have e5 : m2 195 = m1 195 := f2 195 (by decide) (fun e => gp5 e.symm)
  have e6 : m2 196 = m 196 := by rw [f2 196 (by decide) (fun e => gp6 e.symm), f1 196 (by decide)]
  refine ⟨m1, m2, n2, c1, c2, f1 194 (by decide), fun r r1 r2 r3 => by rw [f2 r r1 r3, f1 r r2], ⟨g2.1, by rw [g2.2.1, f1 11 (by decide)], by rw [g2.2.2, f1 17 (by decide)]⟩, ⟨S2, ?_, fun t ht => by rw [e6]; exact h.2.2 t ht⟩, fun i hi => by rw [o2 i hi, f1 p gp5], fun i hi => ?_⟩
  · rw [e5]
    exact lm_ad_AH a1
  · rw [v2 i hi]
    rfl
/-- a chain's loop -/
def lm_I307 (W : lm_WT) (u y : Int32) (X : Nat → Int32) (m0 : lm_MI) (n0 : lm_ML) (p b from' j : Nat) (m : lm_MI) (n : lm_ML) : Prop := from' ≤ j ∧ lm_SM W.1 W.2.1 W.2.2.1 m n ∧ (∀ t, t < lm_so' (lm_sk W.2.1) + 12 → lm_b8 (m 195 t) = ln_ad (lm_sk W.2.1) W.2.2.2.2.1 W.2.2.2.2.2.1 W.2.2.2.2.2.2 (Int32.ofNat 0) u y (Int32.ofNat 0) t) ∧ (∀ r, (r < 5 ∨ 22 < r) → r ≠ 195 → r ≠ p → m r = m0 r) ∧ lm_fN m0 n0 m n ∧ (∀ i, i < b ∨ b + lm_sn W.2.1 ≤ i → m p i = m0 p i) ∧ ∀ i, i < lm_sn W.2.1 → lm_b8 (m p (b + i)) = lm_hch W u y from' X (j - from') i
theorem lm_l307 {f st : Nat} (hC : lm_Cok xs W.1) (hs : W.2.1 ≤ 11) (hf : f + st ≤ 15) (hp : lm_ar p = some (1, w)) (gp : 22 < p) (gp5 : p ≠ 195) (gp6 : p ≠ 196) (hbw : b + lm_sn W.2.1 ≤ w) (hw : w ≤ 70000) {m0 : lm_MI} {n0 : lm_ML} : ∀ j, f ≤ j → j < f + st → ∀ m n, lm_I307 W u y X m0 n0 p b f j m n → ∃ m' n', lm_I307 W u y X m0 n0 p b f (j + 1) m' n' ∧ ∀ R, lm_rn (lm_sc xs) (d + 4) lm_m307.2.2.2.2.1 (lm_reg lm_m307.2.2.2.2.2) (27, [(0, .ref 194), (3, .int (Int32.ofNat f)), (4, .int (Int32.ofNat st)), (5, .ref p), (6, .int (Int32.ofNat b)), (7, .int (Int32.ofNat (lm_az W.2.1))), (8, .int (Int32.ofNat (j + 1)))], []) (lm_w m' n' x) = some R → lm_rn (lm_sc xs) (d + 4) lm_m307.2.2.2.2.1 (lm_reg lm_m307.2.2.2.2.2) (27, [(0, .ref 194), (3, .int (Int32.ofNat f)), (4, .int (Int32.ofNat st)), (5, .ref p), (6, .int (Int32.ofNat b)), (7, .int (Int32.ofNat (lm_az W.2.1))), (8, .int (Int32.ofNat j))], []) (lm_w m n x) = some R := by
  intro j hfj hj m n ⟨i1, i2, i3, i4, i5, i6, i7⟩
  have ho := lm_so_b (lm_sk W.2.1)
  have eaz : lm_az W.2.1 = lm_so' (lm_sk W.2.1) + 13 := rfl
  have oc := lm_obj_c (ln_nk3 (s := W.2.1))
  have hb := lm_k3_b (ln_nk3 (s := W.2.1))
  have p194 := lm_ar_194 hp
  generalize eM : lm_u m 195 (lm_so' (lm_sk W.2.1) + 12) (lm_b8 (Int32.ofNat j)) = M
  have rM : ∀ r, r ≠ 195 → M r = m r := fun r hr => by rw [← eM, lm_u_row hr]
  have aM : ∀ t, t < lm_az W.2.1 → lm_b8 (M 195 t) = ln_ad (lm_sk W.2.1) W.2.2.2.2.1 W.2.2.2.2.2.1 W.2.2.2.2.2.2 (Int32.ofNat 0) u y (Int32.ofNat j) t := fun t ht => by
    by_cases c : t = lm_so' (lm_sk W.2.1) + 12
    · rw [c, ln_ad_l, ← eM, lm_u_eq, lm_b8b8]
    · rw [← eM, lm_u_ne (fun g => c g.2), i3 t (by omega)]
      exact ln_ad_z (by decide) (by omega) (by omega)
  have SMM : lm_SM W.1 W.2.1 W.2.2.1 M n := i2.keep (rM 194 (by decide)) (fun r _ _ => rM r (by omega)) (fun _ _ _ => rfl)
  obtain ⟨m1, n1, m2, n2, m3, n3, m4, n4, c1, c2, c3, c4, e1, e2, e3, f4, g4, S4, o4, v4⟩ := lm_h4 (xs := xs) (d := d) (x := x) (k := ln_nk W.2.1) (P := W.2.2.1) (X := lm_hch W u y f X (j - f)) hC ln_nk3 SMM SMM.2.2.1 hs aM hp gp (a := b) (l := lm_sn W.2.1) hbw hw (fun t ht => by rw [rM p gp5]; exact i7 t ht) hp gp hbw hw
  refine ⟨m4, n4, ⟨by omega, S4, fun t ht => ?_, fun r r1 r2 r3 => by rw [f4 r r1 r3, rM r r2, i4 r r1 r2 r3], ⟨fun r hr => by rw [g4.1 r hr, i5.1 r hr], by rw [g4.2.1, rM 11 (by decide), i5.2.1], by rw [g4.2.2, rM 17 (by decide), i5.2.2]⟩, fun i hi => by rw [o4 i hi, rM p gp5, i6 i hi], fun i hi => ?_⟩, fun R KK => ?_⟩
  · rw [f4 195 (by decide) (fun e => gp5 e.symm), aM t (by omega)]
    exact ln_ad_z (by omega) (by decide) (by omega)
  · rw [v4 i hi, show j + 1 - f = (j - f) + 1 by omega]
    show _ = lm_hF W (Int32.ofNat 0) u y (Int32.ofNat (f + (j - f))) (lm_hch W u y f X (j - f)) (lm_sn W.2.1) i
    rw [show f + (j - f) = j by omega]
    unfold lm_hF ln_tH lm_kl
    rw [if_neg (Nat.lt_irrefl _)]
  · clear i7 v4 aM o4 i3 i6
    refine lm_e307_27 ?_
    unfold lm_q307_27
    rw [lm_K0, lm_K1, lm_oo, lm_oo, eaz, lm_osu (by omega), show lm_so' (lm_sk W.2.1) + 13 - 1 = lm_so' (lm_sk W.2.1) + 12 by omega]
    refine lm_geF (by omega) (by omega) (by omega) ?_
    repeat (first
    | ((with_reducible apply lm_sI); exact rfl)
    | ((with_reducible apply lm_sR); exact rfl)
    | ((with_reducible apply lm_sS); exact rfl; exact rfl)
    | ((with_reducible apply lm_sL); exact rfl)
    | ((with_reducible apply lm_sP); exact rfl; exact rfl)
    | ((with_reducible apply lm_sPL); exact rfl; exact rfl)
    | ((with_reducible apply lm_sAA); exact rfl; exact rfl)
    | ((with_reducible apply lm_sA); (first | exact rfl | assumption); omega)
    | ((with_reducible apply lm_sJ); (first | exact rfl | assumption); omega)
    | ((with_reducible apply lm_sB); (first | exact rfl | assumption); omega)
    | ((with_reducible apply lm_wA); (first | exact rfl | assumption); omega)
    | ((with_reducible apply lm_wJ); (first | exact rfl | assumption); omega)
    | ((with_reducible apply lm_wB); (first | exact rfl | assumption); omega)
    | ((with_reducible apply lm_sAl); (first | exact rfl | assumption); omega)
    | ((with_reducible apply lm_iW); decide))
    rw [eM]
    refine lm_sRh rfl ?_
    simp only [Nat.reduceDiv, Nat.reduceMod]
    rw [SMM.1.2.2.2.2.2.2.2.2.2.1, oc.1]
    refine lm_selR ln_nk3 ?_
    refine lm_cV c1 ?_
    refine lm_sRh rfl ?_
    simp only [Nat.reduceDiv, Nat.reduceMod]
    rw [e1, SMM.1.2.2.2.2.2.2.2.2.2.1, oc.1]
    repeat (first
    | ((with_reducible apply lm_sI); exact rfl)
    | ((with_reducible apply lm_sR); exact rfl)
    | ((with_reducible apply lm_sS); exact rfl; exact rfl)
    | ((with_reducible apply lm_sL); exact rfl)
    | ((with_reducible apply lm_sP); exact rfl; exact rfl)
    | ((with_reducible apply lm_sPL); exact rfl; exact rfl)
    | ((with_reducible apply lm_sAA); exact rfl; exact rfl)
    | ((with_reducible apply lm_sA); (first | exact rfl | assumption); omega)
    | ((with_reducible apply lm_sJ); (first | exact rfl | assumption); omega)
    | ((with_reducible apply lm_sB); (first | exact rfl | assumption); omega)
    | ((with_reducible apply lm_wA); (first | exact rfl | assumption); omega)
    | ((with_reducible apply lm_wJ); (first | exact rfl | assumption); omega)
    | ((with_reducible apply lm_wB); (first | exact rfl | assumption); omega)
    | ((with_reducible apply lm_sAl); (first | exact rfl | assumption); omega)
    | ((with_reducible apply lm_iW); decide))
    refine lm_selA hb.1 hb.2 ?_
    refine lm_cV c2 ?_
    refine lm_sRh rfl ?_
    simp only [Nat.reduceDiv, Nat.reduceMod]
    rw [e2, SMM.1.2.2.2.2.2.2.2.2.2.1, oc.1]
    repeat (first
    | ((with_reducible apply lm_sI); exact rfl)
    | ((with_reducible apply lm_sR); exact rfl)
    | ((with_reducible apply lm_sS); exact rfl; exact rfl)
    | ((with_reducible apply lm_sL); exact rfl)
    | ((with_reducible apply lm_sP); exact rfl; exact rfl)
    | ((with_reducible apply lm_sPL); exact rfl; exact rfl)
    | ((with_reducible apply lm_sAA); exact rfl; exact rfl)
    | ((with_reducible apply lm_sA); (first | exact rfl | assumption); omega)
    | ((with_reducible apply lm_sJ); (first | exact rfl | assumption); omega)
    | ((with_reducible apply lm_sB); (first | exact rfl | assumption); omega)
    | ((with_reducible apply lm_wA); (first | exact rfl | assumption); omega)
    | ((with_reducible apply lm_wJ); (first | exact rfl | assumption); omega)
    | ((with_reducible apply lm_wB); (first | exact rfl | assumption); omega)
    | ((with_reducible apply lm_sAl); (first | exact rfl | assumption); omega)
    | ((with_reducible apply lm_iW); decide))
    simp only [Nat.reduceDiv, Nat.reduceMod]
    rw [e2, SMM.1.2.1]
    refine lm_selA hb.1 hb.2 ?_
    refine lm_cV c3 ?_
    refine lm_sRh rfl ?_
    simp only [Nat.reduceDiv, Nat.reduceMod]
    rw [e3, SMM.1.2.2.2.2.2.2.2.2.2.1, oc.1]
    repeat (first
    | ((with_reducible apply lm_sI); exact rfl)
    | ((with_reducible apply lm_sR); exact rfl)
    | ((with_reducible apply lm_sS); exact rfl; exact rfl)
    | ((with_reducible apply lm_sL); exact rfl)
    | ((with_reducible apply lm_sP); exact rfl; exact rfl)
    | ((with_reducible apply lm_sPL); exact rfl; exact rfl)
    | ((with_reducible apply lm_sAA); exact rfl; exact rfl)
    | ((with_reducible apply lm_sA); (first | exact rfl | assumption); omega)
    | ((with_reducible apply lm_sJ); (first | exact rfl | assumption); omega)
    | ((with_reducible apply lm_sB); (first | exact rfl | assumption); omega)
    | ((with_reducible apply lm_wA); (first | exact rfl | assumption); omega)
    | ((with_reducible apply lm_wJ); (first | exact rfl | assumption); omega)
    | ((with_reducible apply lm_wB); (first | exact rfl | assumption); omega)
    | ((with_reducible apply lm_sAl); (first | exact rfl | assumption); omega)
    | ((with_reducible apply lm_iW); decide))
    simp only [Nat.reduceDiv, Nat.reduceMod]
    rw [e3, SMM.1.2.1]
    refine lm_selF hb.1 hb.2 ?_
    refine lm_cV c4 ?_
    exact KK
theorem lm_u307 {f st : Nat} (hC : lm_Cok xs W.1) (hs : W.2.1 ≤ 11) (h : lm_SX W m n) (hf : f + st ≤ 15) (hp : lm_ar p = some (1, w)) (gp : 22 < p) (gp5 : p ≠ 195) (gp6 : p ≠ 196) (hbw : b + lm_sn W.2.1 ≤ w) (hw : w ≤ 70000) (hX : ∀ t, t < lm_sn W.2.1 → lm_b8 (m p (b + t)) = X t) : ∃ m' n', lm_cal (lm_sc xs) (d + 5) 307 [.ref 194, .int u, .int y, .int (Int32.ofNat f), .int (Int32.ofNat st), .ref p, .int (Int32.ofNat b)] (lm_w m n x) = some (.ok none, lm_w m' n' x) ∧ (∀ r, (r < 5 ∨ 22 < r) → r ≠ 195 → r ≠ p → m' r = m r) ∧ lm_fN m n m' n' ∧ lm_SX W m' n' ∧ (∀ i, i < b ∨ b + lm_sn W.2.1 ≤ i → m' p i = m p i) ∧ ∀ i, i < lm_sn W.2.1 → lm_b8 (m' p (b + i)) = lm_hch W u y f X st i := by
  obtain ⟨m1, c1, f1, a1⟩ := lm_u263 (sc := lm_sc xs) (d := d + 2) (m := m) (n := n) (x := x) (s := W.2.1) (ty := Int32.ofNat 0) (u := u) (y := y) (z := Int32.ofNat f) h.1.1.1 h.2.1
  have SM1 : lm_SM W.1 W.2.1 W.2.2.1 m1 n := h.1.keep (f1 194 (by decide)) (fun r _ _ => f1 r (by omega)) (fun _ _ _ => rfl)
  have I0 : lm_I307 W u y X m n p b f f m1 n := ⟨Nat.le_refl _, SM1, fun t ht => by rw [a1 t (by omega)]; exact ln_ad_z (by omega) (by decide) ht, fun r _ r2 _ => f1 r r2, ⟨fun _ _ => rfl, by rw [f1 11 (by decide)], by rw [f1 17 (by decide)]⟩, fun i _ => by rw [f1 p gp5], fun i hi => by rw [f1 p gp5, hX i hi, Nat.sub_self]; rfl⟩
  obtain ⟨m2, n2, I2, k2⟩ := lm_lpa (fr := fun j => (27, [(0, .ref 194), (3, .int (Int32.ofNat f)), (4, .int (Int32.ofNat st)), (5, .ref p), (6, .int (Int32.ofNat b)), (7, .int (Int32.ofNat (lm_az W.2.1))), (8, .int (Int32.ofNat j))], [])) (Nat.le_add_right f st) (lm_l307 (u := u) (y := y) (X := X) (d := d) (x := x) (m0 := m) (n0 := n) hC hs hf hp gp gp5 gp6 hbw hw) m1 n I0
  obtain ⟨_, j2, j3, j4, j5, j6, j7⟩ := I2
  refine ⟨m2, n2, ?_, j4, j5, ⟨j2, fun t ht => ?_, fun t ht => by rw [j4 196 (by decide) (by decide) (fun e => gp6 e.symm)]; exact h.2.2 t ht⟩, j6, fun i hi => by rw [j7 i hi, Nat.add_sub_cancel_left]⟩
  · have e27 : lm_rn (lm_sc xs) (d + 4) lm_m307.2.2.2.2.1 (lm_reg lm_m307.2.2.2.2.2) (27, [(0, .ref 194), (3, .int (Int32.ofNat f)), (4, .int (Int32.ofNat st)), (5, .ref p), (6, .int (Int32.ofNat b)), (7, .int (Int32.ofNat (lm_az W.2.1))), (8, .int (Int32.ofNat f))], []) (lm_w m1 n x) = some (.ok none, lm_w m2 n2 x) := by
      refine k2 _ ?_
      refine lm_e307_27 ?_
      unfold lm_q307_27
      rw [lm_oo]
      exact lm_geT (by omega) (by omega) (Nat.le_refl _) rfl
    have e22 : ∀ w', w' = Int32.ofNat (lm_az W.2.1) → lm_rn (lm_sc xs) (d + 4) lm_m307.2.2.2.2.1 (lm_reg lm_m307.2.2.2.2.2) (22, [(0, .ref 194), (3, .int (Int32.ofNat f)), (4, .int (Int32.ofNat st)), (5, .ref p), (6, .int (Int32.ofNat b))], [.int w']) (lm_w m1 n x) = some (.ok none, lm_w m2 n2 x) := by
      intro w' hw'
      subst hw'
      refine lm_e307_22 ?_
      unfold lm_q307_22
      exact e27
    clear k2 j7 a1 hX
    refine lm_cal_of (Y := lm_m307) rfl rfl (lm_e307_0 ?_)
    unfold lm_q307_0
    rw [lm_K0]
    repeat (first
    | ((with_reducible apply lm_sI); exact rfl)
    | ((with_reducible apply lm_sR); exact rfl)
    | ((with_reducible apply lm_sS); exact rfl; exact rfl)
    | ((with_reducible apply lm_sL); exact rfl)
    | ((with_reducible apply lm_sP); exact rfl; exact rfl)
    | ((with_reducible apply lm_sPL); exact rfl; exact rfl)
    | ((with_reducible apply lm_sAA); exact rfl; exact rfl)
    | ((with_reducible apply lm_sA); (first | exact rfl | assumption); omega)
    | ((with_reducible apply lm_sJ); (first | exact rfl | assumption); omega)
    | ((with_reducible apply lm_sB); (first | exact rfl | assumption); omega)
    | ((with_reducible apply lm_wA); (first | exact rfl | assumption); omega)
    | ((with_reducible apply lm_wJ); (first | exact rfl | assumption); omega)
    | ((with_reducible apply lm_wB); (first | exact rfl | assumption); omega)
    | ((with_reducible apply lm_sAl); (first | exact rfl | assumption); omega)
    | ((with_reducible apply lm_iW); decide))
    refine lm_cV c1 ?_
    refine lm_sIz rfl ?_
    simp only [Nat.reduceDiv, Nat.reduceMod]
    rw [SM1.1.1]
    have ea : lm_az W.2.1 = lm_so' (lm_sk W.2.1) + 13 := rfl
    cases esk : lm_sk W.2.1 with
    | true => exact lm_iF (show ¬ (1 : Int32) = 0 by decide) (e22 _ (by rw [ea, esk]; rfl))
    | false => exact lm_iT (show (0 : Int32) = 0 by decide) (e22 _ (by rw [ea, esk]; rfl))
  · rw [j3 t (by omega)]
    unfold ln_ad
    rw [if_pos ht]
end LMST
