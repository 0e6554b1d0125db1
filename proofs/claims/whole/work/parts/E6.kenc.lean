/-! ===== encrypt of the class ===== -/
theorem lm_un_cg {F G : Nat → Int} (h : ∀ c, ln_cg 3329 (F c) (G c)) (j : Nat) : ln_cg 3329 (lm_un F j) (lm_un G j) := by
  unfold lm_un
  exact ln_cg.mu (lm_sg_cg fun t _ => (h _).mu ln_cg.rf) ln_cg.rf
/-- the numbers of a ciphertext -/
def lm_eZ (C : lm_CX) (P : Nat → Int32) (num : Nat) (S : Nat → Int) (b : Nat → Nat) (c : Nat) : Int := (lm_un S c + lm_kno C P 32 2 num c + (lm_ex 1 (b c) : Nat)) % 3329
def lm_eW (C : lm_CX) (P : Nat → Int32) (e k : Nat) (F : Nat → Nat → Int) : Nat → Int := lm_apc (fun _ => 0) F (fun j => lm_kS C P 32 e j) k
def lm_eU (C : lm_CX) (P : Nat → Int32) (e k du : Nat) (A : Nat → Nat → Nat → Int) (i c : Nat) : Int := (lm_co du (lm_eZ C P (k + i) (lm_eW C P e k (A i)) (fun _ => 0) c).toNat : Nat)
def lm_eV (C : lm_CX) (P : Nat → Int32) (e k dv : Nat) (T : Nat → Nat → Int) (b : Nat → Nat) (_ c : Nat) : Int := (lm_co dv (lm_eZ C P (2 * k) (lm_eW C P e k T) b c).toNat : Nat)
def lm_ct (C : lm_CX) (P : Nat → Int32) (e k du dv : Nat) (A : Nat → Nat → Nat → Int) (T : Nat → Nat → Int) (b : Nat → Nat) (j : Nat) : Nat := if j < 32 * du * k then lm_pkB (lm_eU C P e k du A) du j else lm_pkB (lm_eV C P e k dv T b) dv (j - 32 * du * k)
theorem lm_eZ_lt {C : lm_CX} {P : Nat → Int32} {num c : Nat} {S : Nat → Int} {b : Nat → Nat} : (lm_eZ C P num S b c).toNat < 3329 := by
  have := lm_m3329 (lm_un S c + lm_kno C P 32 2 num c + (lm_ex 1 (b c) : Nat))
  unfold lm_eZ
  omega
theorem lm_ex1 : lm_ex 1 0 = 0 ∧ lm_ex 1 1 = 1665 := by decide
section LMEN
variable {xs : List Int32} {C : lm_CX} {d k e : Nat} {m m0 : lm_MI} {n n0 : lm_ML} {x : lm_H × Nat × Nat} {P : Nat → Int32}
theorem lm_kno_b {num c : Nat} : -2 ≤ lm_kno C P 32 2 num c ∧ lm_kno C P 32 2 num c ≤ 2 := lm_cb_b (e := 2)
/-- finishPart: the sum becomes one of the ciphertext's polynomials -/
theorem lm_u288 {num bits a t v : Nat} {S : Nat → Int} (hC : lm_Cok xs C) (h : lm_KP C P k e m) (hk : k ≤ 4) (hnum : num ≤ 2 * k) (hb1 : 1 ≤ bits) (hb : bits ≤ 11) (ha : a + 32 * bits ≤ 1568) (ht : lm_ar t = some (1, v)) (hv : 32 ≤ v) (ht2 : 22 < t ∧ t ≠ 69 ∧ t ≠ 70 ∧ t ≠ 71 ∧ t ≠ 72) (hS : ∀ c, c < 256 → m 69 c = Int32.ofInt (S c)) (bS : lm_bnd 2147483647 S) : ∃ m' n', lm_cal (lm_sc xs) (d + 6) 288 [.ref 44, .int (Int32.ofNat num), .int (Int32.ofNat bits), .int (Int32.ofNat a), .ref t] (lm_w m n x) = some (.ok none, lm_w m' n' x) ∧ (∀ r, (r < 5 ∨ 22 < r) → r ≠ 69 → r ≠ 70 → r ≠ 71 → r ≠ 72 → r ≠ 75 → m' r = m r) ∧ lm_fN m n m' n' ∧ (∀ j, j < a ∨ a + 32 * bits ≤ j → m' 75 j = m 75 j) ∧ ∀ j, j < 32 * bits → lm_yb (m' 75 (a + j)) = ln_bv (lm_ts (fun c => lm_co bits (lm_eZ C P num S (fun c => if num = 2 * k then (ln_bt (fun j => m t j) c).toNat else 0) c).toNat) bits) (8 * j) 8 := by
  obtain ⟨m1, c1, p1⟩ := lm_u221 (sc := lm_sc xs) (d := d + 3) (m0 := m) (m := m) (n := n) (x := x) (p := 69) (G := S) rfl ⟨fun _ _ => rfl, hS⟩ bS
  obtain ⟨m2, U, c2, p2, u2⟩ := lm_u290 (sc := lm_sc xs) (d := d + 4) (m := m1) (n := n) (x := x) (p := 69) (G := fun j => S j % 3329) rfl (by decide) (fun i hi => by rw [p1.1 45 (by decide)]; exact h.2.1.1 i hi) (fun c hc => by
    have := lm_m3329 (S c)
    show -3329 ≤ S c % 3329 ∧ S c % 3329 ≤ 3329
    omega) p1.2
  have r2 : ∀ r, r ≠ 69 → m2 r = m r := fun r hr => (p2.1 r hr).trans (p1.1 r hr)
  have rt2 : ln_rt m2 := ⟨by rw [r2 11 (by decide)]; exact h.1.1, by rw [r2 17 (by decide)]; exact h.1.2⟩
  obtain ⟨m3, n3, c3, f3, g3, v3⟩ := lm_u217 (xs := xs) (d := d) (x := x) (n := n) (m := m2) (p := 70) (e := 2) (w := Int32.ofNat num) hC rt2 (Or.inl rfl) rfl (by decide) (by decide)
  have ek : lm_cb (ln_bt (lm_Hm C 12 (lm_gn (m2 73) 32 (Int32.ofNat num)) 33)) 2 = lm_kno C P 32 2 num := by
    unfold lm_kno
    rw [r2 73 (by decide), lm_gn_ext (s := m 73) (s' := P) (fun i hi => h.2.2.2.2 (32 + i) (by omega))]
  rw [ek] at v3
  have r3 : ∀ r, (r < 5 ∨ 22 < r) → r ≠ 69 → r ≠ 70 → r ≠ 71 → r ≠ 72 → m3 r = m r := fun r q1 q2 q3 q4 q5 => (f3 r q1 q4 q5 q3).trans (r2 r q2)
  have k3 : m3 44 12 = Int32.ofNat k := by rw [r3 44 (by decide) (by decide) (by decide) (by decide) (by decide)]; exact h.2.2.1
  have s3 : ∀ c, c < 256 → m3 69 c = Int32.ofInt (U c) := fun c hc => by rw [f3 69 (by decide) (by decide) (by decide) (by decide)]; exact p2.2 c hc
  have et : m3 t = m t := r3 t (by omega) ht2.2.1 ht2.2.2.1 ht2.2.2.2.1 ht2.2.2.2.2
  generalize hbn : (if num = 2 * k then 1 else 0 : Nat) = bt
  have hbt : (bt = 1 ∧ num = 2 * k) ∨ (bt = 0 ∧ num ≠ 2 * k) := by
    rw [← hbn]
    by_cases c : num = 2 * k
    · exact Or.inl ⟨if_pos c, c⟩
    · exact Or.inr ⟨if_neg c, c⟩
  generalize ebf : (fun c => if num = 2 * k then (ln_bt (fun j => m t j) c).toNat else 0) = bf
  have hbf : ∀ c, bf c ≤ 1 := fun c => by
    rw [← ebf]
    show (if num = 2 * k then (ln_bt (fun j => m t j) c).toNat else 0) ≤ 1
    split
    · exact Bool.toNat_le _
    · decide
  have hex : ∀ c, lm_ex 1 (bf c) ≤ 1665 := fun c => by
    have := hbf c
    rcases (by omega : bf c = 0 ∨ bf c = 1) with e0 | e0
    · rw [e0, lm_ex1.1]; decide
    · rw [e0, lm_ex1.2]; decide
  have val : ∀ c, c < 256 → (U c + lm_kno C P 32 2 num c + (lm_ex 1 (bf c) : Nat)) % 3329 = lm_eZ C P num S bf c := fun c hc => by
    unfold lm_eZ
    exact ((((u2 c hc).1.tr (lm_un_cg (fun c => ln_cg.em) c)).ad ln_cg.rf).ad ln_cg.rf).eq
  obtain ⟨m4, n4, ⟨en, g0, g1, g2⟩, k4⟩ := lm_lp (sc := lm_sc xs) (d := d + 5) (b := 256) (hs := lm_m288.2.2.2.2.1) (code := lm_reg lm_m288.2.2.2.2.2) (x := x) (fr := fun c => (45, [(0, .ref 44), (2, .int (Int32.ofNat bits)), (3, .int (Int32.ofNat a)), (4, .ref t), (5, .int (Int32.ofNat bt)), (6, .int (Int32.ofNat c))], [])) (I := fun c m' n' => n' = n3 ∧ (∀ r, r ≠ 69 → m' r = m3 r) ∧ (∀ j, j < c → m' 69 j = Int32.ofNat (lm_co bits (lm_eZ C P num S bf j).toNat)) ∧ ∀ j, c ≤ j → m' 69 j = m3 69 j) (fun c hc m5 n5 ⟨en, g0, g1, g2⟩ => by
    have hu := u2 c hc
    have hn := lm_kno_b (C := C) (P := P) (num := num) (c := c)
    have hx := hex c
    have hz : Int32.ofInt (lm_eZ C P num S bf c) = Int32.ofNat (lm_eZ C P num S bf c).toNat := by
      have := lm_m3329 (lm_un S c + lm_kno C P 32 2 num c + (lm_ex 1 (bf c) : Nat))
      unfold lm_eZ
      rw [lm_oN, Int.toNat_of_nonneg this.1]
    have hco := lm_co_lt (d := bits) (x := (lm_eZ C P num S bf c).toNat)
    refine ⟨lm_u m5 69 c (Int32.ofNat (lm_co bits (lm_eZ C P num S bf c).toNat)), n5, ⟨en, fun r hr => (lm_u_row hr).trans (g0 r hr), fun j hj => ?_, fun j hj => ?_⟩, fun R K => ?_⟩
    · by_cases c0 : j = c
      · subst c0; rw [lm_u_eq]
      · rw [lm_u_ne (by omega)]; exact g1 j (by omega)
    · rw [lm_u_ne (by omega)]; exact g2 j (by omega)
    · have tail : lm_rn (lm_sc xs) (d + 5) lm_m288.2.2.2.2.1 (lm_reg lm_m288.2.2.2.2.2) (77, [(0, .ref 44), (2, .int (Int32.ofNat bits)), (3, .int (Int32.ofNat a)), (4, .ref t), (5, .int (Int32.ofNat bt)), (6, .int (Int32.ofNat c))], [.int (Int32.ofNat (bf c))]) (lm_w m5 n5 x) = some R := by
        refine lm_e288_77 ?_
        unfold lm_q288_77
        repeat (first
    | ((with_reducible apply lm_sI); exact rfl)
    | ((with_reducible apply lm_sR); exact rfl)
    | ((with_reducible apply lm_sS); exact rfl; exact rfl)
    | ((with_reducible apply lm_sL); exact rfl)
    | ((with_reducible apply lm_sP); exact rfl; exact rfl)
    | ((with_reducible apply lm_sPL); exact rfl; exact rfl)
    | ((with_reducible apply lm_sAA); exact rfl; exact rfl)
    | ((with_reducible apply lm_sA); (first | exact rfl | assumption); omega)
    | ((with_reducible apply lm_sJ); (first | exact rfl | assumption); omega)
    | ((with_reducible apply lm_sB); (first | exact rfl | assumption); omega)
    | ((with_reducible apply lm_wA); (first | exact rfl | assumption); omega)
    | ((with_reducible apply lm_wJ); (first | exact rfl | assumption); omega)
    | ((with_reducible apply lm_wB); (first | exact rfl | assumption); omega)
    | ((with_reducible apply lm_sAl); (first | exact rfl | assumption); omega)
    | ((with_reducible apply lm_iW); decide))
        rw [g2 c (by omega), s3 c hc, g0 70 (by decide), v3 c hc, lm_K1]
        refine lm_cI (lm_u289 (e := d + 4) (d := 1) (by decide) (by have := hbf c; omega)) ?_
        rw [lm_oN (lm_ex 1 (bf c)), lm_iA, lm_iA]
        refine lm_cI (lm_u286 (d := d + 4) (by omega) (by omega) (by decide) (by decide)) ?_
        rw [val c hc, hz]
        refine lm_cI (lm_u291 (e := d + 4) hb lm_eZ_lt) ?_
        repeat (first
    | ((with_reducible apply lm_sI); exact rfl)
    | ((with_reducible apply lm_sR); exact rfl)
    | ((with_reducible apply lm_sS); exact rfl; exact rfl)
    | ((with_reducible apply lm_sL); exact rfl)
    | ((with_reducible apply lm_sP); exact rfl; exact rfl)
    | ((with_reducible apply lm_sPL); exact rfl; exact rfl)
    | ((with_reducible apply lm_sAA); exact rfl; exact rfl)
    | ((with_reducible apply lm_sA); (first | exact rfl | assumption); omega)
    | ((with_reducible apply lm_sJ); (first | exact rfl | assumption); omega)
    | ((with_reducible apply lm_sB); (first | exact rfl | assumption); omega)
    | ((with_reducible apply lm_wA); (first | exact rfl | assumption); omega)
    | ((with_reducible apply lm_wJ); (first | exact rfl | assumption); omega)
    | ((with_reducible apply lm_wB); (first | exact rfl | assumption); omega)
    | ((with_reducible apply lm_sAl); (first | exact rfl | assumption); omega)
    | ((with_reducible apply lm_iW); decide))
        rw [lm_oo]
        exact K
      refine lm_e288_45 ?_
      unfold lm_q288_45
      rw [lm_K256]
      refine lm_geF (by omega) (by omega) (by omega) ?_
      rcases hbt with ⟨e1, e2⟩ | ⟨e1, e2⟩
      · subst e1
        refine lm_iF (show ¬ Int32.ofNat 1 = 0 by decide) ?_
        rw [lm_sh3x _ (by omega), lm_an7x _ (by omega)]
        refine lm_sB ht (by omega) ?_
        rw [lm_bit1 _ (by omega), lm_yb_tb _ (by omega), g0 t ht2.2.1, et]
        have : bf c = ((lm_yb (m t (c / 8))).testBit (c % 8)).toNat := by
          rw [← ebf]
          show (if num = 2 * k then (ln_bt (fun j => m t j) c).toNat else 0) = _
          rw [if_pos e2]
          rfl
        rw [← this]
        exact tail
      · subst e1
        refine lm_iT (show Int32.ofNat 0 = 0 by decide) ?_
        have : bf c = 0 := by
          rw [← ebf]
          show (if num = 2 * k then (ln_bt (fun j => m t j) c).toNat else 0) = _
          rw [if_neg e2]
        rw [this] at tail
        rw [lm_K0]
        exact tail) 256 0 (by omega) m3 n3 ⟨rfl, fun _ _ => rfl, fun j hj => absurd hj (by omega), fun _ _ => rfl⟩
  subst en
  obtain ⟨m5, c5, p5⟩ := lm_u219 (sc := lm_sc xs) (e := d + 4) (n := n4) (x := x) (m := m4) (p := 69) (q := 75) (v := 1568) (a := a) (d := bits) (F := fun c => lm_co bits (lm_eZ C P num S bf c).toNat) rfl rfl (by decide) hb1 (by omega) (by decide) ha (fun c hc => ⟨g1 c hc, lm_co_lt⟩)
  refine ⟨m5, n4, ?_, fun r q1 q2 q3 q4 q5 q6 => ?_, ?_, fun j hj => ?_, p5.2.2⟩
  · refine lm_cal_of (Y := lm_m288) rfl rfl (lm_e288_0 ?_)
    unfold lm_q288_0
    repeat (first
    | ((with_reducible apply lm_sI); exact rfl)
    | ((with_reducible apply lm_sR); exact rfl)
    | ((with_reducible apply lm_sS); exact rfl; exact rfl)
    | ((with_reducible apply lm_sL); exact rfl)
    | ((with_reducible apply lm_sP); exact rfl; exact rfl)
    | ((with_reducible apply lm_sPL); exact rfl; exact rfl)
    | ((with_reducible apply lm_sAA); exact rfl; exact rfl)
    | ((with_reducible apply lm_sA); (first | exact rfl | assumption); omega)
    | ((with_reducible apply lm_sJ); (first | exact rfl | assumption); omega)
    | ((with_reducible apply lm_sB); (first | exact rfl | assumption); omega)
    | ((with_reducible apply lm_wA); (first | exact rfl | assumption); omega)
    | ((with_reducible apply lm_wJ); (first | exact rfl | assumption); omega)
    | ((with_reducible apply lm_wB); (first | exact rfl | assumption); omega)
    | ((with_reducible apply lm_sAl); (first | exact rfl | assumption); omega)
    | ((with_reducible apply lm_iW); decide))
    refine lm_cV c1 ?_
    repeat (first
    | ((with_reducible apply lm_sI); exact rfl)
    | ((with_reducible apply lm_sR); exact rfl)
    | ((with_reducible apply lm_sS); exact rfl; exact rfl)
    | ((with_reducible apply lm_sL); exact rfl)
    | ((with_reducible apply lm_sP); exact rfl; exact rfl)
    | ((with_reducible apply lm_sPL); exact rfl; exact rfl)
    | ((with_reducible apply lm_sAA); exact rfl; exact rfl)
    | ((with_reducible apply lm_sA); (first | exact rfl | assumption); omega)
    | ((with_reducible apply lm_sJ); (first | exact rfl | assumption); omega)
    | ((with_reducible apply lm_sB); (first | exact rfl | assumption); omega)
    | ((with_reducible apply lm_wA); (first | exact rfl | assumption); omega)
    | ((with_reducible apply lm_wJ); (first | exact rfl | assumption); omega)
    | ((with_reducible apply lm_wB); (first | exact rfl | assumption); omega)
    | ((with_reducible apply lm_sAl); (first | exact rfl | assumption); omega)
    | ((with_reducible apply lm_iW); decide))
    refine lm_cV c2 ?_
    rw [lm_K2]
    repeat (first
    | ((with_reducible apply lm_sI); exact rfl)
    | ((with_reducible apply lm_sR); exact rfl)
    | ((with_reducible apply lm_sS); exact rfl; exact rfl)
    | ((with_reducible apply lm_sL); exact rfl)
    | ((with_reducible apply lm_sP); exact rfl; exact rfl)
    | ((with_reducible apply lm_sPL); exact rfl; exact rfl)
    | ((with_reducible apply lm_sAA); exact rfl; exact rfl)
    | ((with_reducible apply lm_sA); (first | exact rfl | assumption); omega)
    | ((with_reducible apply lm_sJ); (first | exact rfl | assumption); omega)
    | ((with_reducible apply lm_sB); (first | exact rfl | assumption); omega)
    | ((with_reducible apply lm_wA); (first | exact rfl | assumption); omega)
    | ((with_reducible apply lm_wJ); (first | exact rfl | assumption); omega)
    | ((with_reducible apply lm_wB); (first | exact rfl | assumption); omega)
    | ((with_reducible apply lm_sAl); (first | exact rfl | assumption); omega)
    | ((with_reducible apply lm_iW); decide))
    refine lm_cV c3 ?_
    repeat (first
    | ((with_reducible apply lm_sI); exact rfl)
    | ((with_reducible apply lm_sR); exact rfl)
    | ((with_reducible apply lm_sS); exact rfl; exact rfl)
    | ((with_reducible apply lm_sL); exact rfl)
    | ((with_reducible apply lm_sP); exact rfl; exact rfl)
    | ((with_reducible apply lm_sPL); exact rfl; exact rfl)
    | ((with_reducible apply lm_sAA); exact rfl; exact rfl)
    | ((with_reducible apply lm_sA); (first | exact rfl | assumption); omega)
    | ((with_reducible apply lm_sJ); (first | exact rfl | assumption); omega)
    | ((with_reducible apply lm_sB); (first | exact rfl | assumption); omega)
    | ((with_reducible apply lm_wA); (first | exact rfl | assumption); omega)
    | ((with_reducible apply lm_wJ); (first | exact rfl | assumption); omega)
    | ((with_reducible apply lm_wB); (first | exact rfl | assumption); omega)
    | ((with_reducible apply lm_sAl); (first | exact rfl | assumption); omega)
    | ((with_reducible apply lm_iW); decide))
    simp only [Nat.reduceDiv, Nat.reduceMod]
    rw [k3, lm_om]
    have fin : lm_rn (lm_sc xs) (d + 5) lm_m288.2.2.2.2.1 (lm_reg lm_m288.2.2.2.2.2) (40, [(0, .ref 44), (2, .int (Int32.ofNat bits)), (3, .int (Int32.ofNat a)), (4, .ref t)], [.int (Int32.ofNat bt)]) (lm_w m3 n4 x) = some (.ok none, lm_w m5 n4 x) := by
      refine lm_e288_40 ?_
      unfold lm_q288_40
      rw [lm_K0]
      refine k4 _ (lm_e288_45 ?_)
      unfold lm_q288_45
      rw [lm_K256]
      refine lm_geT (by omega) (by omega) (by omega) ?_
      repeat (first
    | ((with_reducible apply lm_sI); exact rfl)
    | ((with_reducible apply lm_sR); exact rfl)
    | ((with_reducible apply lm_sS); exact rfl; exact rfl)
    | ((with_reducible apply lm_sL); exact rfl)
    | ((with_reducible apply lm_sP); exact rfl; exact rfl)
    | ((with_reducible apply lm_sPL); exact rfl; exact rfl)
    | ((with_reducible apply lm_sAA); exact rfl; exact rfl)
    | ((with_reducible apply lm_sA); (first | exact rfl | assumption); omega)
    | ((with_reducible apply lm_sJ); (first | exact rfl | assumption); omega)
    | ((with_reducible apply lm_sB); (first | exact rfl | assumption); omega)
    | ((with_reducible apply lm_wA); (first | exact rfl | assumption); omega)
    | ((with_reducible apply lm_wJ); (first | exact rfl | assumption); omega)
    | ((with_reducible apply lm_wB); (first | exact rfl | assumption); omega)
    | ((with_reducible apply lm_sAl); (first | exact rfl | assumption); omega)
    | ((with_reducible apply lm_iW); decide))
      exact lm_cV c5 rfl
    rcases hbt with ⟨e1, e2⟩ | ⟨e1, e2⟩
    · subst e1
      refine lm_neF (by omega) (by omega) (fun g => g e2) ?_
      rw [lm_K1]
      exact fin
    · subst e1
      refine lm_neT (by omega) (by omega) e2 ?_
      rw [lm_K0]
      exact fin
  · rw [p5.1 r q6, g0 r q2, r3 r q1 q2 q3 q4 q5]
  · refine (lm_fN.of (r2 11 (by decide)) (r2 17 (by decide))).tr (g3.tr ((lm_fN.of (g0 11 (by decide)) (g0 17 (by decide))).tr (.of (p5.1 11 (by decide)) (p5.1 17 (by decide)))))
  · rw [p5.2.1 j hj, g0 75 (by decide), r3 75 (by decide) (by decide) (by decide) (by decide) (by decide)]
end LMEN
