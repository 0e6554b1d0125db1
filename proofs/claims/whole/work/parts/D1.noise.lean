/-! ===== noise ===== -/
/-- what every call of the class keeps of the longs and the rates -/
def lm_fN (m : lm_MI) (n : lm_ML) (m' : lm_MI) (n' : lm_ML) : Prop := (∀ q, q < 5 ∨ 22 < q → n' q = n q) ∧ m' 11 1 = m 11 1 ∧ m' 17 1 = m 17 1
theorem lm_fN.rf {m : lm_MI} {n : lm_ML} : lm_fN m n m n := ⟨fun _ _ => rfl, rfl, rfl⟩
theorem lm_fN.tr {m m1 m2 : lm_MI} {n n1 n2 : lm_ML} (h : lm_fN m n m1 n1) (g : lm_fN m1 n1 m2 n2) : lm_fN m n m2 n2 := ⟨fun q a => (g.1 q a).trans (h.1 q a), g.2.1.trans h.2.1, g.2.2.trans h.2.2⟩
theorem lm_fC.N {m m1 : lm_MI} {n n1 : lm_ML} (h : lm_fC m n m1 n1) : lm_fN m n m1 n1 := ⟨h.2.1, h.2.2.1, h.2.2.2⟩
theorem lm_fN.rt {m m' : lm_MI} {n n' : lm_ML} (h : lm_fN m n m' n') (g : ln_rt m) : ln_rt m' := ⟨h.2.1.trans g.1, h.2.2.trans g.2⟩
theorem lm_fN.of {m m' : lm_MI} {n : lm_ML} (h1 : m' 11 = m 11) (h2 : m' 17 = m 17) : lm_fN m n m' n := ⟨fun _ _ => rfl, by rw [h1], by rw [h2]⟩
/-- what every call of the reference's hashes keeps -/
def lm_fG (m : lm_MI) (n : lm_ML) (m' : lm_MI) (n' : lm_ML) : Prop := (∀ j, j ≠ 18 → j ≠ 19 → j ≠ 20 → m' 203 j = m 203 j) ∧ (∀ q, q ≠ 203 → q ≠ 223 → q ≠ 224 → q ≠ 225 → q ≠ 226 → q ≠ 230 → n' q = n q)
theorem lm_fG.rf {m : lm_MI} {n : lm_ML} : lm_fG m n m n := ⟨fun _ _ _ _ => rfl, fun _ _ _ _ _ _ _ => rfl⟩
theorem lm_fG.tr {m m1 m2 : lm_MI} {n n1 n2 : lm_ML} (h : lm_fG m n m1 n1) (g : lm_fG m1 n1 m2 n2) : lm_fG m n m2 n2 := ⟨fun j a b c => (g.1 j a b c).trans (h.1 j a b c), fun q a b c d e f => (g.2 q a b c d e f).trans (h.2 q a b c d e f)⟩
theorem lm_fh.G {m m1 : lm_MI} {n n1 : lm_ML} (h : lm_fh m n m1 n1) : lm_fG m n m1 n1 := ⟨fun j a b c => h.2.1 j a b c, fun q a b c d e _ => h.2.2 q a b c d e⟩
theorem lm_fG.of {m m' : lm_MI} {n : lm_ML} (h1 : m' 203 = m 203) : lm_fG m n m' n := ⟨fun j _ _ _ => by rw [h1], fun _ _ _ _ _ _ _ => rfl⟩
theorem lm_fG.ofn {m : lm_MI} {n n' : lm_ML} (h1 : ∀ q, q ≠ 230 → n' q = n q) : lm_fG m n m n' := ⟨fun j _ _ _ => rfl, fun q _ _ _ _ _ a => h1 q a⟩
theorem lm_fG.cx {m m' : lm_MI} {n n' : lm_ML} (h : lm_fG m n m' n') (e : m' 221 = m 221) : lm_cx m' n' = lm_cx m n := by
  have g : ∀ q, (q = 215 ∨ q = 216 ∨ q = 217 ∨ q = 218 ∨ q = 222) → n' q = n q := fun q hq => h.2 q (by omega) (by omega) (by omega) (by omega) (by omega) (by omega)
  unfold lm_cx lm_tb
  rw [e, g 222 (by decide), g 216 (by decide), g 215 (by decide), g 217 (by decide), g 218 (by decide)]
/-- the noise out of bits -/
def lm_cb (s : Nat → Bool) (e i : Nat) : Int := ln_sg e (fun j => ((s (2 * i * e + j)).toNat : Int) - ((s (2 * i * e + e + j)).toNat : Int))
theorem lm_cb_b {s : Nat → Bool} {e i : Nat} : -(e : Int) ≤ lm_cb s e i ∧ lm_cb s e i ≤ e := by
  unfold lm_cb
  generalize eg : (fun j => ((s (2 * i * e + j)).toNat : Int) - ((s (2 * i * e + e + j)).toNat : Int)) = g
  have hg : ∀ j, -1 ≤ g j ∧ g j ≤ 1 := fun j => by
    rw [← eg]
    have h1 := Bool.toNat_le (s (2 * i * e + j))
    have h2 := Bool.toNat_le (s (2 * i * e + e + j))
    show -1 ≤ ((s (2 * i * e + j)).toNat : Int) - ((s (2 * i * e + e + j)).toNat : Int) ∧ ((s (2 * i * e + j)).toNat : Int) - ((s (2 * i * e + e + j)).toNat : Int) ≤ 1
    omega
  have key : ∀ c : Nat, -(c : Int) ≤ ln_sg c g ∧ ln_sg c g ≤ c := by
    intro c
    induction c with
    | zero => show -((0 : Nat) : Int) ≤ 0 ∧ (0 : Int) ≤ ((0 : Nat) : Int); omega
    | succ c ih =>
      have := hg c
      show -((c + 1 : Nat) : Int) ≤ ln_sg c g + g c ∧ ln_sg c g + g c ≤ ((c + 1 : Nat) : Int)
      omega
  exact key e
/-- the message of noise -/
def lm_gn (s : Nat → Int32) (a : Nat) (w : Int32) (i : Nat) : Int32 := if i < 32 then lm_b8 (s (a + i)) else lm_b8 w
theorem lm_sh3x : ∀ i, i < 2000 → (Int32.ofNat i) >>> ((Int32.ofInt 3) &&& 31) = Int32.ofNat (i / 8) := by decide +kernel
theorem lm_an7x : ∀ i, i < 2000 → (Int32.ofNat i) &&& (Int32.ofInt 7) = Int32.ofNat (i % 8) := by decide +kernel
section LMNO
variable {xs : List Int32} {sc : lm_H} {C : lm_CX} {d p q v a e : Nat} {m : lm_MI} {n : lm_ML} {x : lm_H × Nat × Nat} {w : Int32}
/-- the class's sums -/
def lm_cb1 (s : Nat → Bool) (e i j : Nat) : Int := ln_sg j (fun j => if j < e then ((s (2 * i * e + j)).toNat : Int) else -((s (2 * i * e + j)).toNat : Int))
theorem lm_cb1_e {s : Nat → Bool} {i : Nat} : lm_cb1 s e i (2 * e) = lm_cb s e i := by
  unfold lm_cb1 lm_cb
  rw [Nat.two_mul, lm_sg_add]
  rw [lm_sg_ext (n := e) (f := fun j => if j < e then ((s (2 * i * e + j)).toNat : Int) else -((s (2 * i * e + j)).toNat : Int)) (g := fun j => ((s (2 * i * e + j)).toNat : Int)) (fun j hj => if_pos hj), lm_sg_ext (n := e) (f := fun j => if e + j < e then ((s (2 * i * e + (e + j))).toNat : Int) else -((s (2 * i * e + (e + j))).toNat : Int)) (g := fun j => -((s (2 * i * e + e + j)).toNat : Int)) (fun j hj => by rw [if_neg (by omega), Nat.add_assoc]), ← lm_sg_plus]
  refine lm_sg_ext fun j hj => ?_
  omega
theorem lm_l217i {i : Nat} (he : e = 2 ∨ e = 3) (hi : i < 256) {R : Except Nat lm_R × lm_S} (K : lm_rn sc d lm_m217.2.2.2.2.1 (lm_reg lm_m217.2.2.2.2.2) (82, [(0, .ref 44), (1, .ref p), (3, .int (Int32.ofNat e)), (5, .int (Int32.ofNat (2 * i * e + 2 * e))), (6, .int (Int32.ofNat i)), (7, .int (Int32.ofInt (lm_cb (ln_bt (fun j => m 71 j)) e i))), (8, .int (Int32.ofNat (2 * e)))], []) (lm_w m n x) = some R) : lm_rn sc d lm_m217.2.2.2.2.1 (lm_reg lm_m217.2.2.2.2.2) (82, [(0, .ref 44), (1, .ref p), (3, .int (Int32.ofNat e)), (5, .int (Int32.ofNat (2 * i * e + 0))), (6, .int (Int32.ofNat i)), (7, .int (Int32.ofInt 0)), (8, .int (Int32.ofNat 0))], []) (lm_w m n x) = some R := by
  have hie : 2 * i * e ≤ 510 * e := Nat.mul_le_mul_right e (by omega)
  obtain ⟨m', n', ⟨e1, e2⟩, h2⟩ := lm_lp (sc := sc) (d := d) (b := 2 * e) (hs := lm_m217.2.2.2.2.1) (code := lm_reg lm_m217.2.2.2.2.2) (x := x) (fr := fun j => (82, [(0, .ref 44), (1, .ref p), (3, .int (Int32.ofNat e)), (5, .int (Int32.ofNat (2 * i * e + j))), (6, .int (Int32.ofNat i)), (7, .int (Int32.ofInt (lm_cb1 (ln_bt (fun j => m 71 j)) e i j))), (8, .int (Int32.ofNat j))], [])) (I := fun t m' n' => m' = m ∧ n' = n) (fun j hj m1 n1 ⟨e1, e2⟩ => by
    refine ⟨m, n, ⟨rfl, rfl⟩, fun R K => lm_e217_82 ?_⟩
    subst e1
    subst e2
    have hb : 2 * i * e + j < 1536 := by omega
    unfold lm_q217_82
    rw [lm_K2, lm_om]
    refine lm_geF (by omega) (by omega) (by omega) ?_
    rw [lm_sh3x _ (by omega), lm_an7x _ (by omega)]
    repeat (first
    | ((with_reducible apply lm_sI); exact rfl)
    | ((with_reducible apply lm_sR); exact rfl)
    | ((with_reducible apply lm_sS); exact rfl; exact rfl)
    | ((with_reducible apply lm_sL); exact rfl)
    | ((with_reducible apply lm_sP); exact rfl; exact rfl)
    | ((with_reducible apply lm_sPL); exact rfl; exact rfl)
    | ((with_reducible apply lm_sAA); exact rfl; exact rfl)
    | ((with_reducible apply lm_sA); (first | exact rfl | assumption); omega)
    | ((with_reducible apply lm_sJ); (first | exact rfl | assumption); omega)
    | ((with_reducible apply lm_sB); (first | exact rfl | assumption); omega)
    | ((with_reducible apply lm_wA); (first | exact rfl | assumption); omega)
    | ((with_reducible apply lm_wJ); (first | exact rfl | assumption); omega)
    | ((with_reducible apply lm_wB); (first | exact rfl | assumption); omega)
    | ((with_reducible apply lm_sAl); (first | exact rfl | assumption); omega)
    | ((with_reducible apply lm_iW); decide))
    rw [lm_bit1 _ (by omega), lm_yb_tb _ (by omega)]
    have K2 : lm_rn sc d lm_m217.2.2.2.2.1 (lm_reg lm_m217.2.2.2.2.2) (82, [(0, .ref 44), (1, .ref p), (3, .int (Int32.ofNat e)), (5, .int (Int32.ofNat (2 * i * e + j) + Int32.ofInt 1)), (6, .int (Int32.ofNat i)), (7, .int (Int32.ofInt (lm_cb1 (ln_bt (fun j => m1 71 j)) e i j) + Int32.ofInt (if j < e then ((ln_bt (fun j => m1 71 j) (2 * i * e + j)).toNat : Int) else -((ln_bt (fun j => m1 71 j) (2 * i * e + j)).toNat : Int)))), (8, .int (Int32.ofNat j + Int32.ofInt 1))], []) (lm_w m1 n1 x) = some R := by
      rw [lm_iA, lm_K1, lm_oo, lm_oo]
      exact K
    by_cases c : j < e
    · rw [if_pos c] at K2
      refine lm_geF (by omega) (by omega) (by omega) (lm_e217_125 ?_)
      unfold lm_q217_125
      rw [lm_oN (Bool.toNat _)]
      exact K2
    · rw [if_neg c] at K2
      refine lm_geT (by omega) (by omega) (by omega) (lm_e217_125 ?_)
      unfold lm_q217_125
      rw [lm_oN (Bool.toNat _), lm_iN]
      exact K2) (2 * e) 0 (by omega) m n ⟨rfl, rfl⟩
  subst e1
  subst e2
  rw [lm_cb1_e] at h2
  exact h2 R K
/-- noise of the class -/
theorem lm_u217 (hC : lm_Cok xs C) (hr : ln_rt m) (he : e = 2 ∨ e = 3) (hp : lm_ar p = some (0, 256)) (hp2 : p < 5 ∨ 22 < p) (hp3 : p ≠ 71 ∧ p ≠ 72) : ∃ m' n', lm_cal (lm_sc xs) (d + 5) 217 [.ref 44, .ref p, .int w, .int (Int32.ofNat e)] (lm_w m n x) = some (.ok none, lm_w m' n' x) ∧ (∀ q, (q < 5 ∨ 22 < q) → q ≠ 71 → q ≠ 72 → q ≠ p → m' q = m q) ∧ lm_fN m n m' n' ∧ ∀ i, i < 256 → m' p i = Int32.ofInt (lm_cb (ln_bt (lm_Hm C 12 (lm_gn (m 73) 32 w) 33)) e i) := by
  have c11 : ln_rt (lm_u (lm_cp m 72 0 73 32 32) 72 32 (lm_b8 w)) := by
    refine ⟨?_, ?_⟩
    · rw [lm_u_row (by decide), lm_cp_row (by decide)]; exact hr.1
    · rw [lm_u_row (by decide), lm_cp_row (by decide)]; exact hr.2
  obtain ⟨m1, n1, k1, s1, f1⟩ := lm_cS (xs := xs) (d := d + 1) (x := x) (n := n) (k := 12) (G := lm_gn (m 73) 32 w) hC c11 (by decide) (by decide)
  obtain ⟨m2, n2, k2, s2, f2⟩ := lm_cA (xs := xs) (d := d) (x := x) (k := 12) (q := 72) (v := 34) (a := 0) (l := 33) (L := 0) (G := lm_gn (m 73) 32 w) hC (by decide) (by decide) (by decide) rfl (by decide) (by decide) (fun t ht => by
    rw [f1.1 72 (by decide), Nat.zero_add, lm_gn]
    by_cases c : t < 32
    · rw [if_pos c, lm_u_ne (by omega), lm_rc, if_pos ⟨rfl, by omega, by omega⟩, Nat.sub_zero, Nat.add_comm t 32]
    · rw [if_neg c, show t = 32 by omega, lm_u_eq, lm_b8b8]) s1
  obtain ⟨m3, n3, k3, f3⟩ := lm_cF (xs := xs) (d := d) (x := x) (k := 12) (q := 71) (v := 192) (a := 0) (l := 64 * e) hC (by decide) (by decide) (by decide) rfl (by omega) (by decide) (fun h => absurd h (by decide)) s2
  simp only [Nat.zero_add, Nat.sub_zero] at k3
  have fm : ∀ q, (q < 5 ∨ 22 < q) → q ≠ 72 → m3 q = m q := fun q h1 h2 => by
    rw [f3.1 q h1, f2.1 q h1, f1.1 q h1, lm_u_row h2, lm_cp_row h2]
  have f0 : lm_fN m n (lm_u (lm_cp m 72 0 73 32 32) 72 32 (lm_b8 w)) n := .of (by rw [lm_u_row (by decide), lm_cp_row (by decide)]) (by rw [lm_u_row (by decide), lm_cp_row (by decide)])
  have fn : lm_fN m n m3 n3 := f0.tr (f1.N.tr (f2.N.tr f3.N))
  generalize eM : lm_fil m3 71 0 (64 * e) (fun i => lm_Hm C 12 (lm_gn (m 73) 32 w) 33 i) = M at k3
  have eM71 : ∀ j, j < 64 * e → M 71 j = lm_Hm C 12 (lm_gn (m 73) 32 w) 33 j := fun j hj => by rw [← eM, lm_fl_in (by omega)]
  have ebt : ∀ i, i < 256 → lm_cb (ln_bt (fun j => M 71 j)) e i = lm_cb (ln_bt (lm_Hm C 12 (lm_gn (m 73) 32 w) 33)) e i := fun i hi => by
    have hie : 2 * i * e ≤ 510 * e := Nat.mul_le_mul_right e (by omega)
    unfold lm_cb
    refine lm_sg_ext fun j hj => ?_
    unfold ln_bt
    dsimp only
    rw [eM71 _ (by omega), eM71 _ (by omega)]
  obtain ⟨m4, n4, ⟨en, h0, h1⟩, k4⟩ := lm_lp (sc := lm_sc xs) (d := d + 4) (b := 256) (hs := lm_m217.2.2.2.2.1) (code := lm_reg lm_m217.2.2.2.2.2) (x := x) (fr := fun i => (68, [(0, .ref 44), (1, .ref p), (3, .int (Int32.ofNat e)), (5, .int (Int32.ofNat (2 * i * e))), (6, .int (Int32.ofNat i))], [])) (I := fun i m' n' => n' = n3 ∧ (∀ q, q ≠ p → m' q = M q) ∧ ∀ j, j < i → m' p j = Int32.ofInt (lm_cb (ln_bt (fun j => M 71 j)) e j)) (fun i hi m1 n1 ⟨en, h0, h1⟩ => by
    refine ⟨lm_u m1 p i (Int32.ofInt (lm_cb (ln_bt (fun j => M 71 j)) e i)), n1, ⟨en, fun q hq => (lm_u_row hq).trans (h0 q hq), fun j hj => ?_⟩, fun R K => lm_e217_68 ?_⟩
    · by_cases c : j = i
      · subst c; rw [lm_u_eq]
      · rw [lm_u_ne (by omega)]; exact h1 j (by omega)
    · unfold lm_q217_68
      rw [lm_K256]
      refine lm_geF (by omega) (by omega) (by omega) ?_
      rw [lm_K0]
      have e71 : m1 71 = M 71 := h0 71 (fun g => hp3.1 g.symm)
      refine lm_l217i he hi (lm_e217_82 ?_)
      rw [e71]
      unfold lm_q217_82
      rw [lm_K2, lm_om]
      refine lm_geT (by omega) (by omega) (by omega) ?_
      repeat (first
    | ((with_reducible apply lm_sI); exact rfl)
    | ((with_reducible apply lm_sR); exact rfl)
    | ((with_reducible apply lm_sS); exact rfl; exact rfl)
    | ((with_reducible apply lm_sL); exact rfl)
    | ((with_reducible apply lm_sP); exact rfl; exact rfl)
    | ((with_reducible apply lm_sPL); exact rfl; exact rfl)
    | ((with_reducible apply lm_sAA); exact rfl; exact rfl)
    | ((with_reducible apply lm_sA); (first | exact rfl | assumption); omega)
    | ((with_reducible apply lm_sJ); (first | exact rfl | assumption); omega)
    | ((with_reducible apply lm_sB); (first | exact rfl | assumption); omega)
    | ((with_reducible apply lm_wA); (first | exact rfl | assumption); omega)
    | ((with_reducible apply lm_wJ); (first | exact rfl | assumption); omega)
    | ((with_reducible apply lm_wB); (first | exact rfl | assumption); omega)
    | ((with_reducible apply lm_sAl); (first | exact rfl | assumption); omega)
    | ((with_reducible apply lm_iW); decide))
      rw [lm_K1, lm_oo]
      rw [show 2 * (i + 1) * e = 2 * i * e + 2 * e by rw [Nat.mul_add, Nat.add_mul]] at K
      exact K) 256 0 (by omega) M n3 ⟨rfl, fun _ _ => rfl, fun j hj => absurd hj (by omega)⟩
  subst en
  refine ⟨m4, n4, ?_, fun q h1 h2 h3 h4 => ?_, ?_, fun i hi => ?_⟩
  · refine lm_cal_of (Y := lm_m217) rfl rfl (lm_e217_0 ?_)
    unfold lm_q217_0
    rw [lm_K32, lm_K0, lm_K33, lm_K12]
    repeat (first
    | ((with_reducible apply lm_sI); exact rfl)
    | ((with_reducible apply lm_sR); exact rfl)
    | ((with_reducible apply lm_sS); exact rfl; exact rfl)
    | ((with_reducible apply lm_sL); exact rfl)
    | ((with_reducible apply lm_sP); exact rfl; exact rfl)
    | ((with_reducible apply lm_sPL); exact rfl; exact rfl)
    | ((with_reducible apply lm_sAA); exact rfl; exact rfl)
    | ((with_reducible apply lm_sA); (first | exact rfl | assumption); omega)
    | ((with_reducible apply lm_sJ); (first | exact rfl | assumption); omega)
    | ((with_reducible apply lm_sB); (first | exact rfl | assumption); omega)
    | ((with_reducible apply lm_wA); (first | exact rfl | assumption); omega)
    | ((with_reducible apply lm_wJ); (first | exact rfl | assumption); omega)
    | ((with_reducible apply lm_wB); (first | exact rfl | assumption); omega)
    | ((with_reducible apply lm_sAl); (first | exact rfl | assumption); omega)
    | ((with_reducible apply lm_iW); decide))
    refine lm_sCp (u := 1) rfl rfl (Or.inr rfl) (by decide) (by decide) ?_
    repeat (first
    | ((with_reducible apply lm_sI); exact rfl)
    | ((with_reducible apply lm_sR); exact rfl)
    | ((with_reducible apply lm_sS); exact rfl; exact rfl)
    | ((with_reducible apply lm_sL); exact rfl)
    | ((with_reducible apply lm_sP); exact rfl; exact rfl)
    | ((with_reducible apply lm_sPL); exact rfl; exact rfl)
    | ((with_reducible apply lm_sAA); exact rfl; exact rfl)
    | ((with_reducible apply lm_sA); (first | exact rfl | assumption); omega)
    | ((with_reducible apply lm_sJ); (first | exact rfl | assumption); omega)
    | ((with_reducible apply lm_sB); (first | exact rfl | assumption); omega)
    | ((with_reducible apply lm_wA); (first | exact rfl | assumption); omega)
    | ((with_reducible apply lm_wJ); (first | exact rfl | assumption); omega)
    | ((with_reducible apply lm_wB); (first | exact rfl | assumption); omega)
    | ((with_reducible apply lm_sAl); (first | exact rfl | assumption); omega)
    | ((with_reducible apply lm_iW); decide))
    refine lm_cR k1 ?_
    repeat (first
    | ((with_reducible apply lm_sI); exact rfl)
    | ((with_reducible apply lm_sR); exact rfl)
    | ((with_reducible apply lm_sS); exact rfl; exact rfl)
    | ((with_reducible apply lm_sL); exact rfl)
    | ((with_reducible apply lm_sP); exact rfl; exact rfl)
    | ((with_reducible apply lm_sPL); exact rfl; exact rfl)
    | ((with_reducible apply lm_sAA); exact rfl; exact rfl)
    | ((with_reducible apply lm_sA); (first | exact rfl | assumption); omega)
    | ((with_reducible apply lm_sJ); (first | exact rfl | assumption); omega)
    | ((with_reducible apply lm_sB); (first | exact rfl | assumption); omega)
    | ((with_reducible apply lm_wA); (first | exact rfl | assumption); omega)
    | ((with_reducible apply lm_wJ); (first | exact rfl | assumption); omega)
    | ((with_reducible apply lm_wB); (first | exact rfl | assumption); omega)
    | ((with_reducible apply lm_sAl); (first | exact rfl | assumption); omega)
    | ((with_reducible apply lm_iW); decide))
    refine lm_cV k2 ?_
    repeat (first
    | ((with_reducible apply lm_sI); exact rfl)
    | ((with_reducible apply lm_sR); exact rfl)
    | ((with_reducible apply lm_sS); exact rfl; exact rfl)
    | ((with_reducible apply lm_sL); exact rfl)
    | ((with_reducible apply lm_sP); exact rfl; exact rfl)
    | ((with_reducible apply lm_sPL); exact rfl; exact rfl)
    | ((with_reducible apply lm_sAA); exact rfl; exact rfl)
    | ((with_reducible apply lm_sA); (first | exact rfl | assumption); omega)
    | ((with_reducible apply lm_sJ); (first | exact rfl | assumption); omega)
    | ((with_reducible apply lm_sB); (first | exact rfl | assumption); omega)
    | ((with_reducible apply lm_wA); (first | exact rfl | assumption); omega)
    | ((with_reducible apply lm_wJ); (first | exact rfl | assumption); omega)
    | ((with_reducible apply lm_wB); (first | exact rfl | assumption); omega)
    | ((with_reducible apply lm_sAl); (first | exact rfl | assumption); omega)
    | ((with_reducible apply lm_iW); decide))
    rw [lm_K64, lm_om]
    refine lm_cV k3 ?_
    rw [Nat.mul_zero, Nat.zero_mul] at k4
    refine k4 _ (lm_e217_68 ?_)
    unfold lm_q217_68
    rw [lm_K256]
    exact lm_geT (by omega) (by omega) (by omega) rfl
  · rw [h0 q h4, ← eM, lm_fl_row h2, fm q h1 h3]
  · refine fn.tr (.of ?_ ?_)
    · rw [h0 11 (by omega), ← eM, lm_fl_row (by decide)]
    · rw [h0 17 (by omega), ← eM, lm_fl_row (by decide)]
  · rw [h1 i hi, ebt i hi]
/-- binomial of the reference -/
theorem lm_u70 (hC : lm_cx m n = C) (he : e = 2 ∨ e = 3) (hp : lm_ar p = some (0, 256)) (hp3 : p ≠ 203 ∧ p ≠ 227 ∧ p ≠ 264) (hq : lm_ar q = some (1, v)) (hv : v ≤ 70000) (hav : a + 32 ≤ v) (hq3 : q ≠ 203 ∧ q ≠ 227) : ∃ m' n', lm_cal sc (d + 6) 70 [.ref 203, .ref p, .int (Int32.ofNat e), .ref q, .int (Int32.ofNat a), .int w] (lm_w m n x) = some (.ok none, lm_w m' n' x) ∧ (∀ r, r ≠ 203 → r ≠ 227 → r ≠ 264 → r ≠ p → m' r = m r) ∧ lm_fG m n m' n' ∧ ∀ i, i < 256 → m' p i = Int32.ofInt (lm_cb (ln_bt (lm_Hm C 12 (lm_gn (m q) a w) 33)) e i % 3329) := by
  obtain ⟨m1, n1, k1, s1, f1⟩ := lm_rS (sc := sc) (d := d + 3) (x := x) (k := 12) (G := lm_gn (m q) a w) hC (by decide) (by decide)
  have C1 := f1.cx.trans hC
  obtain ⟨m2, n2, k2, s2, f2⟩ := lm_rA (sc := sc) (d := d + 1) (x := x) (k := 12) (q := q) (v := v) (a := a) (l := 32) (L := 0) (G := lm_gn (m q) a w) C1 (by decide) hq3 hq hav hv (fun t ht => by
    rw [f1.1 q hq3.1 hq3.2, Nat.zero_add, lm_gn, if_pos ht]) s1
  have C2 := f2.cx.trans C1
  obtain ⟨m3, n3, k3, s3, f3⟩ := lm_rB (sc := sc) (d := d + 2) (x := x) (k := 12) (w := w) (L := 0 + 32) (G := lm_gn (m q) a w) C2 (by decide) (by rw [lm_gn, if_neg (by decide)]) s2
  have C3 := f3.cx.trans C2
  obtain ⟨m4, n4, k4, f4⟩ := lm_rG (sc := sc) (d := d) (x := x) (k := 12) (q := 264) (v := 256) (a := 0) (l := 64 * e) C3 (by decide) (by decide) rfl (by omega) (by decide) (fun h => absurd h (by decide)) s3
  simp only [Nat.zero_add, Nat.sub_zero] at k4
  have fm : ∀ r, r ≠ 203 → r ≠ 227 → m4 r = m r := fun r h1 h2 => by rw [f4.1 r h1 h2, f3.1 r h1 h2, f2.1 r h1 h2, f1.1 r h1 h2]
  have fn : lm_fG m n m4 n4 := f1.G.tr (f2.G.tr (f3.G.tr f4.G))
  generalize eM : lm_fil m4 264 0 (64 * e) (fun i => lm_Hm C 12 (lm_gn (m q) a w) (32 + 1) i) = M at k4
  have eM71 : ∀ j, j < 64 * e → M 264 j = lm_Hm C 12 (lm_gn (m q) a w) 33 j := fun j hj => by rw [← eM, lm_fl_in (by omega)]
  have ebt : ∀ t, t < 512 * e → ln_bt (fun j => M 264 (0 + j)) t = ln_bt (lm_Hm C 12 (lm_gn (m q) a w) 33) t := fun t ht => by
    unfold ln_bt
    dsimp only
    rw [Nat.zero_add, eM71 _ (by omega)]
  obtain ⟨m5, n5, ⟨en, h0, h1⟩, k5⟩ := lm_lp (sc := sc) (d := d + 5) (b := 256) (hs := lm_m70.2.2.2.2.1) (code := lm_reg lm_m70.2.2.2.2.2) (x := x) (fr := fun i => (37, [(0, .ref 203), (1, .ref p), (2, .int (Int32.ofNat e)), (6, .int (Int32.ofNat i))], [])) (I := fun i m' n' => n' = n4 ∧ (∀ r, r ≠ p → m' r = M r) ∧ ∀ j, j < i → m' p j = Int32.ofInt (lm_cb (ln_bt (lm_Hm C 12 (lm_gn (m q) a w) 33)) e j % 3329)) (fun i hi m1 n1 ⟨en, h0, h1⟩ => by
    have hie : 2 * i * e ≤ 510 * e := Nat.mul_le_mul_right e (by omega)
    have e264 : m1 264 = M 264 := h0 264 (fun g => hp3.2.2 g.symm)
    have hb := lm_cb_b (s := ln_bt (lm_Hm C 12 (lm_gn (m q) a w) 33)) (e := e) (i := i)
    obtain ⟨m', n', ⟨e1, e2⟩, h2⟩ := lm_lp (sc := sc) (d := d + 5) (b := e) (hs := lm_m70.2.2.2.2.1) (code := lm_reg lm_m70.2.2.2.2.2) (x := x) (fr := fun j => (51, [(0, .ref 203), (1, .ref p), (2, .int (Int32.ofNat e)), (6, .int (Int32.ofNat i)), (7, .int (Int32.ofInt (ln_sg j (fun j => ((ln_bt (lm_Hm C 12 (lm_gn (m q) a w) 33) (2 * i * e + j)).toNat : Int) - ((ln_bt (lm_Hm C 12 (lm_gn (m q) a w) 33) (2 * i * e + e + j)).toNat : Int))))), (8, .int (Int32.ofNat j))], [])) (I := fun t m' n' => m' = m1 ∧ n' = n1) (fun j hj m2 n2 ⟨e1, e2⟩ => by
      refine ⟨m1, n1, ⟨rfl, rfl⟩, fun R K => lm_e70_51 ?_⟩
      subst e1
      subst e2
      unfold lm_q70_51
      refine lm_geF (by omega) (by omega) (by omega) ?_
      rw [lm_K2, lm_K0]
      simp only [lm_om, lm_oo]
      repeat (first
    | ((with_reducible apply lm_sI); exact rfl)
    | ((with_reducible apply lm_sR); exact rfl)
    | ((with_reducible apply lm_sS); exact rfl; exact rfl)
    | ((with_reducible apply lm_sL); exact rfl)
    | ((with_reducible apply lm_sP); exact rfl; exact rfl)
    | ((with_reducible apply lm_sPL); exact rfl; exact rfl)
    | ((with_reducible apply lm_sAA); exact rfl; exact rfl)
    | ((with_reducible apply lm_sA); (first | exact rfl | assumption); omega)
    | ((with_reducible apply lm_sJ); (first | exact rfl | assumption); omega)
    | ((with_reducible apply lm_sB); (first | exact rfl | assumption); omega)
    | ((with_reducible apply lm_wA); (first | exact rfl | assumption); omega)
    | ((with_reducible apply lm_wJ); (first | exact rfl | assumption); omega)
    | ((with_reducible apply lm_wB); (first | exact rfl | assumption); omega)
    | ((with_reducible apply lm_sAl); (first | exact rfl | assumption); omega)
    | ((with_reducible apply lm_iW); decide))
      refine lm_cI (lm_u157 (e := d + 4) (q := 264) (v := 256) rfl (by decide) (by omega) (by omega)) ?_
      repeat (first
    | ((with_reducible apply lm_sI); exact rfl)
    | ((with_reducible apply lm_sR); exact rfl)
    | ((with_reducible apply lm_sS); exact rfl; exact rfl)
    | ((with_reducible apply lm_sL); exact rfl)
    | ((with_reducible apply lm_sP); exact rfl; exact rfl)
    | ((with_reducible apply lm_sPL); exact rfl; exact rfl)
    | ((with_reducible apply lm_sAA); exact rfl; exact rfl)
    | ((with_reducible apply lm_sA); (first | exact rfl | assumption); omega)
    | ((with_reducible apply lm_sJ); (first | exact rfl | assumption); omega)
    | ((with_reducible apply lm_sB); (first | exact rfl | assumption); omega)
    | ((with_reducible apply lm_wA); (first | exact rfl | assumption); omega)
    | ((with_reducible apply lm_wJ); (first | exact rfl | assumption); omega)
    | ((with_reducible apply lm_wB); (first | exact rfl | assumption); omega)
    | ((with_reducible apply lm_sAl); (first | exact rfl | assumption); omega)
    | ((with_reducible apply lm_iW); decide))
      refine lm_cI (lm_u157 (e := d + 4) (q := 264) (v := 256) rfl (by decide) (by omega) (by omega)) ?_
      rw [e264, ebt _ (by omega), ebt _ (by omega), lm_oN (Bool.toNat _), lm_oN (Bool.toNat _), lm_iS, lm_iA, lm_K1, lm_oo]
      exact K) e 0 (by omega) m1 n1 ⟨rfl, rfl⟩
    subst e1
    subst e2
    refine ⟨?m', ?n', ?_, fun R K => lm_e70_37 ?run⟩
    case run =>
      unfold lm_q70_37
      rw [lm_K256]
      refine lm_geF (by omega) (by omega) (by omega) ?_
      rw [lm_K0]
      refine h2 R (lm_e70_51 ?_)
      unfold lm_q70_51
      refine lm_geT (by omega) (by omega) (by omega) ?_
      repeat (first
    | ((with_reducible apply lm_sI); exact rfl)
    | ((with_reducible apply lm_sR); exact rfl)
    | ((with_reducible apply lm_sS); exact rfl; exact rfl)
    | ((with_reducible apply lm_sL); exact rfl)
    | ((with_reducible apply lm_sP); exact rfl; exact rfl)
    | ((with_reducible apply lm_sPL); exact rfl; exact rfl)
    | ((with_reducible apply lm_sAA); exact rfl; exact rfl)
    | ((with_reducible apply lm_sA); (first | exact rfl | assumption); omega)
    | ((with_reducible apply lm_sJ); (first | exact rfl | assumption); omega)
    | ((with_reducible apply lm_sB); (first | exact rfl | assumption); omega)
    | ((with_reducible apply lm_wA); (first | exact rfl | assumption); omega)
    | ((with_reducible apply lm_wJ); (first | exact rfl | assumption); omega)
    | ((with_reducible apply lm_wB); (first | exact rfl | assumption); omega)
    | ((with_reducible apply lm_sAl); (first | exact rfl | assumption); omega)
    | ((with_reducible apply lm_iW); decide))
      rw [lm_K1, lm_oo]
      exact K
    · refine ⟨en, fun r hr => (lm_u_row hr).trans (h0 r hr), fun j hj => ?_⟩
      by_cases c : j = i
      · subst c
        rw [lm_u_eq, lm_iA]
        show lm_rem (Int32.ofInt (lm_cb _ e j + 3329)) _ = _
        rw [lm_iR (by omega) (by omega) (by decide) (by decide), Int.tmod_eq_emod_of_nonneg (by omega), Int.add_emod_right]
      · rw [lm_u_ne (by omega)]; exact h1 j (by omega)) 256 0 (by omega) M n4 ⟨rfl, fun _ _ => rfl, fun j hj => absurd hj (by omega)⟩
  subst en
  refine ⟨m5, n5, ?_, fun r h1 h2 h3 h4 => ?_, ?_, h1⟩
  · refine lm_cal_of (Y := lm_m70) rfl rfl (lm_e70_0 ?_)
    unfold lm_q70_0
    rw [lm_K12, lm_K32, lm_K0, lm_K64, lm_om]
    repeat (first
    | ((with_reducible apply lm_sI); exact rfl)
    | ((with_reducible apply lm_sR); exact rfl)
    | ((with_reducible apply lm_sS); exact rfl; exact rfl)
    | ((with_reducible apply lm_sL); exact rfl)
    | ((with_reducible apply lm_sP); exact rfl; exact rfl)
    | ((with_reducible apply lm_sPL); exact rfl; exact rfl)
    | ((with_reducible apply lm_sAA); exact rfl; exact rfl)
    | ((with_reducible apply lm_sA); (first | exact rfl | assumption); omega)
    | ((with_reducible apply lm_sJ); (first | exact rfl | assumption); omega)
    | ((with_reducible apply lm_sB); (first | exact rfl | assumption); omega)
    | ((with_reducible apply lm_wA); (first | exact rfl | assumption); omega)
    | ((with_reducible apply lm_wJ); (first | exact rfl | assumption); omega)
    | ((with_reducible apply lm_wB); (first | exact rfl | assumption); omega)
    | ((with_reducible apply lm_sAl); (first | exact rfl | assumption); omega)
    | ((with_reducible apply lm_iW); decide))
    refine lm_cV k1 ?_
    repeat (first
    | ((with_reducible apply lm_sI); exact rfl)
    | ((with_reducible apply lm_sR); exact rfl)
    | ((with_reducible apply lm_sS); exact rfl; exact rfl)
    | ((with_reducible apply lm_sL); exact rfl)
    | ((with_reducible apply lm_sP); exact rfl; exact rfl)
    | ((with_reducible apply lm_sPL); exact rfl; exact rfl)
    | ((with_reducible apply lm_sAA); exact rfl; exact rfl)
    | ((with_reducible apply lm_sA); (first | exact rfl | assumption); omega)
    | ((with_reducible apply lm_sJ); (first | exact rfl | assumption); omega)
    | ((with_reducible apply lm_sB); (first | exact rfl | assumption); omega)
    | ((with_reducible apply lm_wA); (first | exact rfl | assumption); omega)
    | ((with_reducible apply lm_wJ); (first | exact rfl | assumption); omega)
    | ((with_reducible apply lm_wB); (first | exact rfl | assumption); omega)
    | ((with_reducible apply lm_sAl); (first | exact rfl | assumption); omega)
    | ((with_reducible apply lm_iW); decide))
    refine lm_cV k2 ?_
    repeat (first
    | ((with_reducible apply lm_sI); exact rfl)
    | ((with_reducible apply lm_sR); exact rfl)
    | ((with_reducible apply lm_sS); exact rfl; exact rfl)
    | ((with_reducible apply lm_sL); exact rfl)
    | ((with_reducible apply lm_sP); exact rfl; exact rfl)
    | ((with_reducible apply lm_sPL); exact rfl; exact rfl)
    | ((with_reducible apply lm_sAA); exact rfl; exact rfl)
    | ((with_reducible apply lm_sA); (first | exact rfl | assumption); omega)
    | ((with_reducible apply lm_sJ); (first | exact rfl | assumption); omega)
    | ((with_reducible apply lm_sB); (first | exact rfl | assumption); omega)
    | ((with_reducible apply lm_wA); (first | exact rfl | assumption); omega)
    | ((with_reducible apply lm_wJ); (first | exact rfl | assumption); omega)
    | ((with_reducible apply lm_wB); (first | exact rfl | assumption); omega)
    | ((with_reducible apply lm_sAl); (first | exact rfl | assumption); omega)
    | ((with_reducible apply lm_iW); decide))
    refine lm_cV k3 ?_
    repeat (first
    | ((with_reducible apply lm_sI); exact rfl)
    | ((with_reducible apply lm_sR); exact rfl)
    | ((with_reducible apply lm_sS); exact rfl; exact rfl)
    | ((with_reducible apply lm_sL); exact rfl)
    | ((with_reducible apply lm_sP); exact rfl; exact rfl)
    | ((with_reducible apply lm_sPL); exact rfl; exact rfl)
    | ((with_reducible apply lm_sAA); exact rfl; exact rfl)
    | ((with_reducible apply lm_sA); (first | exact rfl | assumption); omega)
    | ((with_reducible apply lm_sJ); (first | exact rfl | assumption); omega)
    | ((with_reducible apply lm_sB); (first | exact rfl | assumption); omega)
    | ((with_reducible apply lm_wA); (first | exact rfl | assumption); omega)
    | ((with_reducible apply lm_wJ); (first | exact rfl | assumption); omega)
    | ((with_reducible apply lm_wB); (first | exact rfl | assumption); omega)
    | ((with_reducible apply lm_sAl); (first | exact rfl | assumption); omega)
    | ((with_reducible apply lm_iW); decide))
    refine lm_cV k4 ?_
    refine k5 _ (lm_e70_37 ?_)
    unfold lm_q70_37
    rw [lm_K256]
    exact lm_geT (by omega) (by omega) (by omega) rfl
  · rw [h0 r h4, ← eM, lm_fl_row h3, fm r h1 h2]
  · refine fn.tr (.of ?_)
    rw [h0 203 (fun g => hp3.1 g.symm), ← eM, lm_fl_row (by decide)]
end LMNO
