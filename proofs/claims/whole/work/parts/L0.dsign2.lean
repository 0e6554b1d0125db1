/-! ===== dsaSign of the class: seeds that are alike; the attempts; the call ===== -/
section LMEB
variable {C : lm_CX} {K U U' V V' : Nat → Int32} {s : Nat}
theorem ln_g6_ext {w : Int32} (h : ∀ i, i < 64 → lm_b8 (U i) = lm_b8 (U' i)) : ln_g6 U 0 w = ln_g6 U' 0 w := by
  funext i
  unfold ln_g6
  by_cases c : i < 64
  · rw [if_pos c, if_pos c, Nat.zero_add, h i c]
  · rw [if_neg c, if_neg c]
theorem lm_aY_ext (h : ∀ i, i < 64 → lm_b8 (U i) = lm_b8 (U' i)) : lm_aY C U s = lm_aY C U' s := by
  funext j t c
  unfold lm_aY lm_zY
  rw [ln_g6_ext h]
theorem lm_aW_ext (h : ∀ i, i < 64 → lm_b8 (U i) = lm_b8 (U' i)) : ln_aW C K U s = ln_aW C K U' s := by
  funext j i c
  unfold ln_aW
  rw [lm_aY_ext h]
theorem lm_cG_ext {F : Nat → Nat → Int} {hb : Nat} (h : ∀ i, i < 64 → lm_b8 (V i) = lm_b8 (V' i)) : lm_cG V F hb = lm_cG V' F hb := by
  funext t
  unfold lm_cG
  by_cases c : t < 64
  · rw [if_pos c, if_pos c, h t c]
  · rw [if_neg c, if_neg c]
theorem lm_aC_ext (h : ∀ i, i < 64 → lm_b8 (U i) = lm_b8 (U' i)) (g : ∀ i, i < 64 → lm_b8 (V i) = lm_b8 (V' i)) : lm_aC C K U V s = lm_aC C K U' V' s := by
  funext j
  unfold lm_aC
  rw [lm_aW_ext h, lm_cG_ext g]
theorem lm_aB_ext (h : ∀ i, i < 64 → lm_b8 (U i) = lm_b8 (U' i)) (g : ∀ i, i < 64 → lm_b8 (V i) = lm_b8 (V' i)) : lm_aB C K U V s = lm_aB C K U' V' s := by
  funext j
  unfold lm_aB
  rw [lm_aC_ext h g]
theorem lm_aZ_ext (h : ∀ i, i < 64 → lm_b8 (U i) = lm_b8 (U' i)) (g : ∀ i, i < 64 → lm_b8 (V i) = lm_b8 (V' i)) : lm_aZ C K U V s = lm_aZ C K U' V' s := by
  funext j t c
  unfold lm_aZ
  rw [lm_aY_ext h, lm_aB_ext h g]
theorem lm_aR_ext (h : ∀ i, i < 64 → lm_b8 (U i) = lm_b8 (U' i)) (g : ∀ i, i < 64 → lm_b8 (V i) = lm_b8 (V' i)) : lm_aR C K U V s = lm_aR C K U' V' s := by
  funext j t c
  unfold lm_aR
  rw [lm_aW_ext h, lm_aB_ext h g]
theorem lm_aD_ext (h : ∀ i, i < 64 → lm_b8 (U i) = lm_b8 (U' i)) (g : ∀ i, i < 64 → lm_b8 (V i) = lm_b8 (V' i)) : lm_aD C K U V s = lm_aD C K U' V' s := by
  funext j t c
  unfold lm_aD
  rw [lm_aB_ext h g]
theorem lm_aH_ext (h : ∀ i, i < 64 → lm_b8 (U i) = lm_b8 (U' i)) (g : ∀ i, i < 64 → lm_b8 (V i) = lm_b8 (V' i)) : lm_aH C K U V s = lm_aH C K U' V' s := by
  funext j
  unfold lm_aH
  rw [lm_aR_ext h g, lm_aD_ext h g]
theorem lm_ag_ext {j : Nat} (h : ∀ i, i < 64 → lm_b8 (U i) = lm_b8 (U' i)) (g : ∀ i, i < 64 → lm_b8 (V i) = lm_b8 (V' i)) : lm_ag C K U V s j = lm_ag C K U' V' s j := by
  unfold lm_ag
  rw [lm_aZ_ext h g, lm_aR_ext h g, lm_aD_ext h g, lm_aH_ext h g]
/-- every polynomial of the matrix can be had -/
def ln_sA (C : lm_CX) (K : Nat → Int32) (s : Nat) : Prop := ∀ i t, i < lm_dk s → t < lm_dl s → (lm_xA C K 0 i t).1 = 256
/-- the attempts ahead of a are in vain -/
def ln_pa (C : lm_CX) (K U V : Nat → Int32) (s a : Nat) : Prop := ∀ b, b < a → (lm_aB C K U V s (b * lm_dl s)).1 = 256 ∧ ¬ lm_ag C K U V s (b * lm_dl s)
/-- the attempt a is the first good one -/
def lm_sY (C : lm_CX) (K U V : Nat → Int32) (s a : Nat) : Prop := ln_sA C K s ∧ a < 814 ∧ ln_pa C K U V s a ∧ (lm_aB C K U V s (a * lm_dl s)).1 = 256 ∧ lm_ag C K U V s (a * lm_dl s)
/-- none is good -/
def ln_sN (C : lm_CX) (K U V : Nat → Int32) (s : Nat) : Prop := ¬ ln_sA C K s ∨ (∃ a, a < 814 ∧ ln_pa C K U V s a ∧ (lm_aB C K U V s (a * lm_dl s)).1 ≠ 256) ∨ ln_pa C K U V s 814
theorem lm_sYN {a : Nat} (h : lm_sY C K U V s a) (g : ln_sN C K U V s) : False := by
  obtain ⟨h1, h2, h3, h4, h5⟩ := h
  rcases g with g | ⟨b, g1, g2, g3⟩ | g
  · exact g h1
  · rcases Nat.lt_trichotomy a b with c | c | c
    · exact (g2 a c).2 h5
    · subst c; exact g3 h4
    · exact g3 (h3 b c).1
  · exact (g a h2).2 h5
theorem lm_sYY {a b : Nat} (h : lm_sY C K U V s a) (g : lm_sY C K U V s b) : a = b := by
  obtain ⟨h1, h2, h3, h4, h5⟩ := h
  obtain ⟨g1, g2, g3, g4, g5⟩ := g
  rcases Nat.lt_trichotomy a b with c | c | c
  · exact absurd h5 (g3 a c).2
  · exact c
  · exact absurd g5 (h3 b c).2
end LMEB
/-- the message's hash; the seed of the masks -/
def lm_sV (C : lm_CX) (K : Nat → Int32) (kk : Nat) (X : Nat → Int32) (xl : Nat) (Mg : Nat → Int32) (ml : Nat) : Nat → Int32 := lm_Hm C 12 (lm_mG K 64 (lm_sgn C kk X xl Mg ml)) (64 + lm_sgl kk xl ml)
def lm_sU (C : lm_CX) (K R : Nat → Int32) (rl : Nat) (V : Nat → Int32) : Nat → Int32 := lm_Hm C 12 (ln_rG K R V rl) 128
section LMEC
variable {xs : List Int32} {C : lm_CX} {d s kk xl ml rl : Nat} {m : lm_MI} {n : lm_ML} {x : lm_H × Nat × Nat} {X : Nat → Int32}
theorem lm_dps_e (s : Nat) : lm_dps s = lm_dsz s + 32 * lm_dw s * lm_dl s + lm_do s + lm_dk s := by
  unfold lm_dps
  rw [Nat.mul_comm (lm_dl s) 32, Nat.mul_assoc, Nat.mul_comm (lm_dl s), ← Nat.mul_assoc]
set_option maxRecDepth 100000 in
theorem lm_u171 (hC : lm_Cok xs C) (hr : ln_rt m) (hx : lm_rom x) (hs : s ≤ 2) (h : lm_DC m s) (hz : ∀ k, k < 256 → m 77 k = Int32.ofInt (lm_zd k)) (hl : lm_spl kk xl ≤ 332) (h4 : m 42 4 = Int32.ofNat (lm_spl kk xl)) (h5 : lm_b1 (m 42 5) = lm_z (decide (kk ≤ 1))) (hm : m 32 1 = Int32.ofNat ml) (hml : ml ≤ 65536) (hP : ∀ t, t < lm_spl kk xl → lm_b8 (m 43 t) = lm_sp X xl kk (lm_sgd C kk (m 33) ml) t) (h1 : m 26 1 = Int32.ofNat rl) (hrl : rl ≤ 32) : (∃ a, lm_sY C (m 31) (lm_sU C (m 31) (m 27) rl (lm_sV C (m 31) kk X xl (m 33) ml)) (lm_sV C (m 31) kk X xl (m 33) ml) s a ∧ ∃ m' n', lm_cal (lm_sc xs) (d + 7) 171 [.ref 76, .ref 31, .ref 26, .ref 42, .ref 36] (lm_w m n x) = some (.ok (some (.int (Int32.ofNat (a + 1)))), lm_w m' n' x) ∧ (∀ r, (r < 5 ∨ 22 < r) → r ≠ 36 → r ≠ 37 → (r < 79 ∨ 193 < r) → m' r = m r) ∧ lm_fN m n m' n' ∧ m' 36 1 = Int32.ofNat (lm_dps s) ∧ ∀ t, t < lm_dps s → lm_yb (m' 37 t) = lm_sig C (m 31) (lm_sU C (m 31) (m 27) rl (lm_sV C (m 31) kk X xl (m 33) ml)) (lm_sV C (m 31) kk X xl (m 33) ml) s (a * lm_dl s) t) ∨ (ln_sN C (m 31) (lm_sU C (m 31) (m 27) rl (lm_sV C (m 31) kk X xl (m 33) ml)) (lm_sV C (m 31) kk X xl (m 33) ml) s ∧ ∃ m' n', lm_cal (lm_sc xs) (d + 7) 171 [.ref 76, .ref 31, .ref 26, .ref 42, .ref 36] (lm_w m n x) = some (.error (lm_xp x), lm_w m' n' (lm_xx 15 x)) ∧ (∀ r, (r < 5 ∨ 22 < r) → (r < 79 ∨ 193 < r) → m' r = m r) ∧ lm_fN m n m' n') := by
  have hkl := lm_dkl hs
  have hpar := lm_dpar s hs
  obtain ⟨m1, n1, c1, f1, g1, v1⟩ := lm_u242 (xs := xs) (C := C) (d := d) (m := m) (n := n) (x := x) (q := 31) (v := 65536) (a := 64) (kk := kk) (xl := xl) (ml := ml) (X := X) hC hr hl rfl (by decide) (by decide) (by decide) h4 h5 hm hml hP
  generalize eV : lm_sV C (m 31) kk X xl (m 33) ml = V
  have v1' : ∀ i, i < 64 → m1 191 i = V i := fun i hi => by rw [← eV, v1 i hi]; rfl
  have e1 : ∀ r, 22 < r → r ≠ 191 → m1 r = m r := fun r q1 q2 => f1 r (by omega) q2
  obtain ⟨m2, n2, c2, f2, g2, v2⟩ := lm_u243 (xs := xs) (C := C) (d := d + 1) (m := m1) (n := n1) (x := x) (rl := rl) hC (g1.rt hr) (by rw [e1 26 (by decide) (by decide)]; exact h1) hrl
  rw [e1 31 (by decide) (by decide), e1 27 (by decide) (by decide)] at v2
  generalize eU : lm_sU C (m 31) (m 27) rl V = U
  have v2' : ∀ i, i < 64 → m2 189 i = U i := fun i hi => by
    rw [← eU, v2 i hi]
    unfold lm_sU
    refine lm_Hm_ext fun t ht => ?_
    unfold ln_rG
    by_cases t1 : t < 32
    · rw [if_pos t1, if_pos t1]
    · rw [if_neg t1, if_neg t1]
      by_cases t2 : t < 64
      · rw [if_pos t2, if_pos t2]
      · rw [if_neg t2, if_neg t2, v1' _ (by omega)]
  have e2 : ∀ r, 22 < r → r ≠ 188 → r ≠ 189 → r ≠ 191 → m2 r = m r := fun r q1 q2 q3 q4 => by rw [f2 r (by omega) q2 q3, e1 r q1 q4]
  have N2 := g1.tr g2
  have D2 : lm_DC m2 s := by unfold lm_DC; rw [e2 76 (by decide) (by decide) (by decide) (by decide)]; exact h
  have run2 : ∀ R, lm_bind (lm_asV (lm_cal (lm_sc xs) (d + 6) 232 [.ref 76, .ref 31, .int (Int32.ofNat 0)])) (fun _ => lm_bind (lm_sel [(9, 244)] (some (.ref 76))) fun y4 => lm_bind (lm_asV (lm_cal (lm_sc xs) (d + 6) y4 [.ref 76, .ref 31])) fun _ => lm_rn (lm_sc xs) (d + 6) lm_m171.2.2.2.2.1 (lm_reg lm_m171.2.2.2.2.2) (28, [(0, .ref 76), (4, .ref 36), (5, .int (Int32.ofInt 1))], [])) (lm_w m2 n2 x) = some R → lm_cal (lm_sc xs) (d + 7) 171 [.ref 76, .ref 31, .ref 26, .ref 42, .ref 36] (lm_w m n x) = some R := by
    intro R KK
    clear v1 v1' v2 v2' hP
    refine lm_cal_of (Y := lm_m171) rfl rfl (lm_e171_0 ?_)
    unfold lm_q171_0
    rw [lm_K64, lm_K0]
    repeat (first
    | ((with_reducible apply lm_sI); exact rfl)
    | ((with_reducible apply lm_sR); exact rfl)
    | ((with_reducible apply lm_sS); exact rfl; exact rfl)
    | ((with_reducible apply lm_sL); exact rfl)
    | ((with_reducible apply lm_sP); exact rfl; exact rfl)
    | ((with_reducible apply lm_sPL); exact rfl; exact rfl)
    | ((with_reducible apply lm_sAA); exact rfl; exact rfl)
    | ((with_reducible apply lm_sA); (first | exact rfl | assumption); omega)
    | ((with_reducible apply lm_sJ); (first | exact rfl | assumption); omega)
    | ((with_reducible apply lm_sB); (first | exact rfl | assumption); omega)
    | ((with_reducible apply lm_wA); (first | exact rfl | assumption); omega)
    | ((with_reducible apply lm_wJ); (first | exact rfl | assumption); omega)
    | ((with_reducible apply lm_wB); (first | exact rfl | assumption); omega)
    | ((with_reducible apply lm_sAl); (first | exact rfl | assumption); omega)
    | ((with_reducible apply lm_iW); decide))
    refine lm_cV c1 ?_
    repeat (first
    | ((with_reducible apply lm_sI); exact rfl)
    | ((with_reducible apply lm_sR); exact rfl)
    | ((with_reducible apply lm_sS); exact rfl; exact rfl)
    | ((with_reducible apply lm_sL); exact rfl)
    | ((with_reducible apply lm_sP); exact rfl; exact rfl)
    | ((with_reducible apply lm_sPL); exact rfl; exact rfl)
    | ((with_reducible apply lm_sAA); exact rfl; exact rfl)
    | ((with_reducible apply lm_sA); (first | exact rfl | assumption); omega)
    | ((with_reducible apply lm_sJ); (first | exact rfl | assumption); omega)
    | ((with_reducible apply lm_sB); (first | exact rfl | assumption); omega)
    | ((with_reducible apply lm_wA); (first | exact rfl | assumption); omega)
    | ((with_reducible apply lm_wJ); (first | exact rfl | assumption); omega)
    | ((with_reducible apply lm_wB); (first | exact rfl | assumption); omega)
    | ((with_reducible apply lm_sAl); (first | exact rfl | assumption); omega)
    | ((with_reducible apply lm_iW); decide))
    refine lm_cV c2 ?_
    repeat (first
    | ((with_reducible apply lm_sI); exact rfl)
    | ((with_reducible apply lm_sR); exact rfl)
    | ((with_reducible apply lm_sS); exact rfl; exact rfl)
    | ((with_reducible apply lm_sL); exact rfl)
    | ((with_reducible apply lm_sP); exact rfl; exact rfl)
    | ((with_reducible apply lm_sPL); exact rfl; exact rfl)
    | ((with_reducible apply lm_sAA); exact rfl; exact rfl)
    | ((with_reducible apply lm_sA); (first | exact rfl | assumption); omega)
    | ((with_reducible apply lm_sJ); (first | exact rfl | assumption); omega)
    | ((with_reducible apply lm_sB); (first | exact rfl | assumption); omega)
    | ((with_reducible apply lm_wA); (first | exact rfl | assumption); omega)
    | ((with_reducible apply lm_wJ); (first | exact rfl | assumption); omega)
    | ((with_reducible apply lm_wB); (first | exact rfl | assumption); omega)
    | ((with_reducible apply lm_sAl); (first | exact rfl | assumption); omega)
    | ((with_reducible apply lm_iW); decide))
    exact KK
  have m231 : m2 31 = m 31 := e2 31 (by decide) (by decide) (by decide) (by decide)
  rcases lm_u232 (xs := xs) (C := C) (d := d) (m := m2) (n := n2) (x := x) (k := lm_dk s) (l := lm_dl s) (q := 31) (v := 65536) (a := 0) hC (N2.rt hr) hx D2.2.1 D2.2.2 hkl.1 hkl.2.1 rfl (by decide) (by decide) with ⟨m3, n3, c3, f3, g3, v3⟩ | ⟨R, ⟨m3, n3, eR, f3, g3, i, t, hi, ht, v3⟩, c3⟩
  · rw [m231] at v3
    have D3 : lm_DC m3 s := by unfold lm_DC; rw [f3 76 (by decide) (by decide) (by decide) (by decide)]; exact D2
    have m331 : m3 31 = m 31 := by rw [f3 31 (by decide) (by decide) (by decide) (by decide), m231]
    obtain ⟨m4, c4, f4, s4, t4⟩ := lm_u244 (xs := xs) (d := d + 2) (m := m3) (n := n3) (x := x) (s := s) hs D3 (fun k hk => by rw [f3 77 (by decide) (by decide) (by decide) (by decide), e2 77 (by decide) (by decide) (by decide) (by decide)]; exact hz k hk)
    rw [m331] at s4 t4
    have D4 : lm_DC m4 s := by unfold lm_DC; rw [f4 76 (by decide)]; exact D3
    have N4 : lm_fN m n m4 n3 := N2.tr (g3.tr (.of (f4 11 (by decide)) (f4 17 (by decide))))
    have fr4 : ∀ r, (r < 5 ∨ 22 < r) → (r < 79 ∨ 193 < r) → m4 r = m r := fun r q1 q2 => by rw [f4 r (by omega), f3 r q1 (by omega) (by omega) (by omega), f2 r q1 (by omega) (by omega), f1 r q1 (by omega)]
    have hU : ∀ i, i < 64 → lm_b8 (m4 189 i) = lm_b8 (U i) := fun i hi => by rw [f4 189 (by decide), f3 189 (by decide) (by decide) (by decide) (by decide), v2' i hi]
    have hV : ∀ i, i < 64 → lm_b8 (m4 191 i) = lm_b8 (V i) := fun i hi => by rw [f4 191 (by decide), f3 191 (by decide) (by decide) (by decide) (by decide), f2 191 (by decide) (by decide) (by decide), v1' i hi]
    have hz4 : ∀ k, k < 256 → m4 77 k = Int32.ofInt (lm_zd k) := fun k hk => by rw [fr4 77 (by decide) (by decide)]; exact hz k hk
    have hA4 : ∀ i t, i < lm_dk s → t < lm_dl s → ∀ c, c < 256 → m4 (79 + (i * lm_dl s + t)) c = Int32.ofInt (lm_xAm C (m 31) i t c) ∧ 0 ≤ lm_xAm C (m 31) i t c ∧ lm_xAm C (m 31) i t c ≤ 8380416 := fun i t hi ht c hc => by
      have hil : i * lm_dl s + lm_dl s ≤ 8 * 7 := by
        rw [← Nat.succ_mul]
        exact Nat.mul_le_mul (by omega) hkl.2.1
      obtain ⟨w1, w2⟩ := v3 i t hi ht
      have b := lm_xA_lt w1 hc
      rw [f4 _ (by omega), w2 c hc, lm_oN, lm_xAm_e]
      generalize (lm_xA C (m 31) 0 i t).2 c = z at b
      exact ⟨rfl, by omega, by omega⟩
    have sA : ln_sA C (m 31) s := fun i t hi ht => (v3 i t hi ht).1
    clear v3
    rcases lm_lpe (sc := lm_sc xs) (d := d + 6) (b := 814) (hs := lm_m171.2.2.2.2.1) (code := lm_reg lm_m171.2.2.2.2.2) (x := x) (fr := fun a => (28, [(0, .ref 76), (4, .ref 36), (5, .int (Int32.ofNat (a + 1)))], [])) (I := fun a m' n' => lm_fA m4 m' ∧ lm_fN m n m' n' ∧ ln_pa C (m 31) U V s a) (E := fun R => (∃ a, lm_sY C (m 31) U V s a ∧ ∃ m' n', R = (.ok (some (.int (Int32.ofNat (a + 1)))), lm_w m' n' x) ∧ (∀ r, (r < 5 ∨ 22 < r) → r ≠ 36 → r ≠ 37 → (r < 79 ∨ 193 < r) → m' r = m r) ∧ lm_fN m n m' n' ∧ m' 36 1 = Int32.ofNat (lm_dps s) ∧ ∀ t, t < lm_dps s → lm_yb (m' 37 t) = lm_sig C (m 31) U V s (a * lm_dl s) t) ∨ (ln_sN C (m 31) U V s ∧ ∃ m' n', R = (.error (lm_xp x), lm_w m' n' (lm_xx 15 x)) ∧ (∀ r, (r < 5 ∨ 22 < r) → (r < 79 ∨ 193 < r) → m' r = m r) ∧ lm_fN m n m' n')) (fun a ha m5 n5 ⟨i1, i2, i3⟩ => by
      have hal : a * lm_dl s ≤ 813 * 7 := Nat.mul_le_mul (by omega) hkl.2.1
      have e5 : ∀ r, (r < 79 ∨ 193 < r) → (r < 5 ∨ 22 < r) → m5 r = m r := fun r q1 q2 => by rw [i1 r q2 (by omega), fr4 r q2 q1]
      have D5 : lm_DC m5 s := by unfold lm_DC; rw [i1 76 (by decide) (by decide)]; exact D4
      have hU5 : ∀ i, i < 64 → lm_b8 (m5 189 i) = lm_b8 (U i) := fun i hi => by rw [i1 189 (by decide) (by decide)]; exact hU i hi
      have hV5 : ∀ i, i < 64 → lm_b8 (m5 191 i) = lm_b8 (V i) := fun i hi => by rw [i1 191 (by decide) (by decide)]; exact hV i hi
      have at5 := lm_u245 (xs := xs) (C := C) (K := m 31) (d := d) (m := m5) (n := n5) (x := x) (s := s) (j := a * lm_dl s) hC (i2.rt hr) hx hs D5 (fun k hk => by rw [i1 77 (by decide) (by decide)]; exact hz4 k hk) (by omega) (fun i t hi ht c hc => by
        have hil : i * lm_dl s + lm_dl s ≤ 8 * 7 := by
          rw [← Nat.succ_mul]
          exact Nat.mul_le_mul (by omega) hkl.2.1
        rw [i1 _ (by omega) (by omega)]
        exact hA4 i t hi ht c hc) (fun t ht => lm_pts_of (s4 t ht) (i1 _ (by omega) (by omega))) (fun i hi => lm_pts_of (t4 i hi) (i1 _ (by omega) (by omega)))
      rw [lm_aB_ext hU5 hV5, lm_ag_ext hU5 hV5, lm_aZ_ext hU5 hV5, lm_aC_ext hU5 hV5, lm_aH_ext hU5 hV5] at at5
      have pre : ∀ v3, ∀ R σ', lm_cal (lm_sc xs) (d + 6) 245 [.ref 76, .int (Int32.ofNat (a * lm_dl s))] (lm_w m5 n5 x) = some (.ok (some (.int v3)), σ') → lm_if .eq v3 0 (lm_rn (lm_sc xs) (d + 6) lm_m171.2.2.2.2.1 (lm_reg lm_m171.2.2.2.2.2) (28, [(0, .ref 76), (4, .ref 36), (5, .int (Int32.ofNat (a + 1) + Int32.ofInt 1))], [])) (lm_bind (lm_sel [(9, 246)] (some (.ref 76))) fun y4 => lm_bind (lm_asV (lm_cal (lm_sc xs) (d + 6) y4 [.ref 76, .ref 36])) fun _ => lm_ret (some (.int (Int32.ofNat (a + 1))))) σ' = some R → lm_rn (lm_sc xs) (d + 6) lm_m171.2.2.2.2.1 (lm_reg lm_m171.2.2.2.2.2) (28, [(0, .ref 76), (4, .ref 36), (5, .int (Int32.ofNat (a + 1)))], []) (lm_w m5 n5 x) = some R := by
        intro v3 R σ' cc KK
        clear at5
        refine lm_e171_28 ?_
        unfold lm_q171_28
        rw [show Int32.ofInt 814 = Int32.ofNat 814 from rfl]
        refine lm_gtF (by omega) (by omega) (by omega) ?_
        repeat (first
    | ((with_reducible apply lm_sI); exact rfl)
    | ((with_reducible apply lm_sR); exact rfl)
    | ((with_reducible apply lm_sS); exact rfl; exact rfl)
    | ((with_reducible apply lm_sL); exact rfl)
    | ((with_reducible apply lm_sP); exact rfl; exact rfl)
    | ((with_reducible apply lm_sPL); exact rfl; exact rfl)
    | ((with_reducible apply lm_sAA); exact rfl; exact rfl)
    | ((with_reducible apply lm_sA); (first | exact rfl | assumption); omega)
    | ((with_reducible apply lm_sJ); (first | exact rfl | assumption); omega)
    | ((with_reducible apply lm_sB); (first | exact rfl | assumption); omega)
    | ((with_reducible apply lm_wA); (first | exact rfl | assumption); omega)
    | ((with_reducible apply lm_wJ); (first | exact rfl | assumption); omega)
    | ((with_reducible apply lm_wB); (first | exact rfl | assumption); omega)
    | ((with_reducible apply lm_sAl); (first | exact rfl | assumption); omega)
    | ((with_reducible apply lm_iW); decide))
        simp only [Nat.reduceDiv, Nat.reduceMod]
        rw [D5.2.2, lm_K1, lm_osu (by omega), Nat.add_sub_cancel, lm_om]
        refine lm_cI cc ?_
        rw [lm_K1] at KK
        exact KK
      rcases at5 with ⟨b1, b2, m6, n6, c6, f6, g6, z6, y6, h6, w6⟩ | ⟨b1, b2, m6, n6, c6, f6, g6⟩ | ⟨b1, m6, n6, c6, f6, g6⟩
      · have D6 : lm_DC m6 s := by unfold lm_DC; rw [f6 76 (by decide) (by decide)]; exact D5
        obtain ⟨m7, c7, f7, z7, o1, o2, o3⟩ := lm_u246 (xs := xs) (d := d + 3) (m := m6) (n := n6) (x := x) (s := s) (Z := lm_aZ C (m 31) U V s (a * lm_dl s)) hs D6 (fun t ht c hc => ⟨z6 t ht c hc, b2.1 t ht c hc⟩)
        refine Or.inr ⟨_, Or.inl ⟨a, ⟨sA, ha, i3, b1, b2⟩, m7, n6, rfl, fun r q1 q2 q3 q4 => by rw [f7 r q2 q3 (by omega), f6 r q1 (by omega), e5 r q4 q1], i2.tr (g6.tr (.of (f7 11 (by decide) (by decide) (by decide)) (f7 17 (by decide) (by decide) (by decide)))), z7, fun t ht => ?_⟩, pre 1 _ _ c6 ?_⟩
        · rw [lm_dps_e] at ht
          unfold lm_sig
          by_cases t1 : t < lm_dsz s
          · rw [if_pos t1, o1 t t1, y6 t t1]
          · rw [if_neg t1]
            by_cases t2 : t < lm_dsz s + 32 * lm_dw s * lm_dl s
            · rw [if_pos t2]
              have := o2 (t - lm_dsz s) (by omega)
              rw [show lm_dsz s + (t - lm_dsz s) = t by omega] at this
              exact this
            · rw [if_neg t2]
              have o := o3 (t - (lm_dsz s + 32 * lm_dw s * lm_dl s)) (by omega)
              rw [show lm_dsz s + 32 * lm_dw s * lm_dl s + (t - (lm_dsz s + 32 * lm_dw s * lm_dl s)) = t by omega] at o
              rw [o]
              by_cases t3 : t < lm_dsz s + 32 * lm_dw s * lm_dl s + lm_do s
              · rw [if_pos t3]
                exact h6 _ (by omega)
              · rw [if_neg t3]
                have w := w6 (t - (lm_dsz s + 32 * lm_dw s * lm_dl s + lm_do s)) (by omega)
                rw [show lm_do s + (t - (lm_dsz s + 32 * lm_dw s * lm_dl s + lm_do s)) = t - (lm_dsz s + 32 * lm_dw s * lm_dl s) by omega] at w
                exact w
        · clear z6 y6 h6 w6 o1 o2 o3
          refine lm_iF (show ¬ (1 : Int32) = 0 by decide) ?_
          repeat (first
    | ((with_reducible apply lm_sI); exact rfl)
    | ((with_reducible apply lm_sR); exact rfl)
    | ((with_reducible apply lm_sS); exact rfl; exact rfl)
    | ((with_reducible apply lm_sL); exact rfl)
    | ((with_reducible apply lm_sP); exact rfl; exact rfl)
    | ((with_reducible apply lm_sPL); exact rfl; exact rfl)
    | ((with_reducible apply lm_sAA); exact rfl; exact rfl)
    | ((with_reducible apply lm_sA); (first | exact rfl | assumption); omega)
    | ((with_reducible apply lm_sJ); (first | exact rfl | assumption); omega)
    | ((with_reducible apply lm_sB); (first | exact rfl | assumption); omega)
    | ((with_reducible apply lm_wA); (first | exact rfl | assumption); omega)
    | ((with_reducible apply lm_wJ); (first | exact rfl | assumption); omega)
    | ((with_reducible apply lm_wB); (first | exact rfl | assumption); omega)
    | ((with_reducible apply lm_sAl); (first | exact rfl | assumption); omega)
    | ((with_reducible apply lm_iW); decide))
          exact lm_cV c7 rfl
      · refine Or.inl ⟨m6, n6, ⟨fun r q1 q2 => by rw [f6 r q1 q2, i1 r q1 q2], i2.tr g6, fun b hb => ?_⟩, fun R KK => pre 0 _ _ c6 ?_⟩
        · by_cases c0 : b = a
          · subst c0; exact ⟨b1, b2⟩
          · exact i3 b (by omega)
        · refine lm_iT (show (0 : Int32) = 0 by decide) ?_
          rw [lm_K1, lm_oo]
          exact KK
      · refine Or.inr ⟨_, Or.inr ⟨Or.inr (Or.inl ⟨a, ha, i3, b1⟩), m6, n6, rfl, fun r q1 q2 => by rw [f6 r q1 (by omega), e5 r q2 q1], i2.tr g6⟩, ?_⟩
        refine lm_e171_28 ?_
        unfold lm_q171_28
        rw [show Int32.ofInt 814 = Int32.ofNat 814 from rfl]
        refine lm_gtF (by omega) (by omega) (by omega) ?_
        repeat (first
    | ((with_reducible apply lm_sI); exact rfl)
    | ((with_reducible apply lm_sR); exact rfl)
    | ((with_reducible apply lm_sS); exact rfl; exact rfl)
    | ((with_reducible apply lm_sL); exact rfl)
    | ((with_reducible apply lm_sP); exact rfl; exact rfl)
    | ((with_reducible apply lm_sPL); exact rfl; exact rfl)
    | ((with_reducible apply lm_sAA); exact rfl; exact rfl)
    | ((with_reducible apply lm_sA); (first | exact rfl | assumption); omega)
    | ((with_reducible apply lm_sJ); (first | exact rfl | assumption); omega)
    | ((with_reducible apply lm_sB); (first | exact rfl | assumption); omega)
    | ((with_reducible apply lm_wA); (first | exact rfl | assumption); omega)
    | ((with_reducible apply lm_wJ); (first | exact rfl | assumption); omega)
    | ((with_reducible apply lm_wB); (first | exact rfl | assumption); omega)
    | ((with_reducible apply lm_sAl); (first | exact rfl | assumption); omega)
    | ((with_reducible apply lm_iW); decide))
        simp only [Nat.reduceDiv, Nat.reduceMod]
        rw [D5.2.2, lm_K1, lm_osu (by omega), Nat.add_sub_cancel, lm_om]
        exact lm_cIe c6) 814 0 (by omega) m4 n3 ⟨fun _ _ _ => rfl, N4, fun b hb => absurd hb (by omega)⟩ with ⟨m5, n5, ⟨i1, i2, i3⟩, k5⟩ | ⟨R, ER, k5⟩
    · refine Or.inr ⟨Or.inr (Or.inr i3), m5, n5, run2 _ (lm_cV c3 ?_), fun r q1 q2 => by rw [i1 r q1 (by omega), fr4 r q1 q2], i2⟩
      clear s4 t4 hA4 sA hU hV
      repeat (first
    | ((with_reducible apply lm_sI); exact rfl)
    | ((with_reducible apply lm_sR); exact rfl)
    | ((with_reducible apply lm_sS); exact rfl; exact rfl)
    | ((with_reducible apply lm_sL); exact rfl)
    | ((with_reducible apply lm_sP); exact rfl; exact rfl)
    | ((with_reducible apply lm_sPL); exact rfl; exact rfl)
    | ((with_reducible apply lm_sAA); exact rfl; exact rfl)
    | ((with_reducible apply lm_sA); (first | exact rfl | assumption); omega)
    | ((with_reducible apply lm_sJ); (first | exact rfl | assumption); omega)
    | ((with_reducible apply lm_sB); (first | exact rfl | assumption); omega)
    | ((with_reducible apply lm_wA); (first | exact rfl | assumption); omega)
    | ((with_reducible apply lm_wJ); (first | exact rfl | assumption); omega)
    | ((with_reducible apply lm_wB); (first | exact rfl | assumption); omega)
    | ((with_reducible apply lm_sAl); (first | exact rfl | assumption); omega)
    | ((with_reducible apply lm_iW); decide))
      refine lm_cV c4 ?_
      rw [lm_K1]
      refine k5 _ (lm_e171_28 ?_)
      unfold lm_q171_28
      rw [show Int32.ofInt 814 = Int32.ofNat 814 from rfl]
      refine lm_gtT (by omega) (by omega) (by omega) ?_
      exact lm_wT hx
    · have fin : lm_cal (lm_sc xs) (d + 7) 171 [.ref 76, .ref 31, .ref 26, .ref 42, .ref 36] (lm_w m n x) = some R := by
        refine run2 _ (lm_cV c3 ?_)
        clear s4 t4 hA4 sA hU hV ER
        repeat (first
    | ((with_reducible apply lm_sI); exact rfl)
    | ((with_reducible apply lm_sR); exact rfl)
    | ((with_reducible apply lm_sS); exact rfl; exact rfl)
    | ((with_reducible apply lm_sL); exact rfl)
    | ((with_reducible apply lm_sP); exact rfl; exact rfl)
    | ((with_reducible apply lm_sPL); exact rfl; exact rfl)
    | ((with_reducible apply lm_sAA); exact rfl; exact rfl)
    | ((with_reducible apply lm_sA); (first | exact rfl | assumption); omega)
    | ((with_reducible apply lm_sJ); (first | exact rfl | assumption); omega)
    | ((with_reducible apply lm_sB); (first | exact rfl | assumption); omega)
    | ((with_reducible apply lm_wA); (first | exact rfl | assumption); omega)
    | ((with_reducible apply lm_wJ); (first | exact rfl | assumption); omega)
    | ((with_reducible apply lm_wB); (first | exact rfl | assumption); omega)
    | ((with_reducible apply lm_sAl); (first | exact rfl | assumption); omega)
    | ((with_reducible apply lm_iW); decide))
        refine lm_cV c4 ?_
        rw [lm_K1]
        exact k5
      rcases ER with ⟨a, y, m', n', eR, q⟩ | ⟨y, m', n', eR, q⟩
      · exact Or.inl ⟨a, y, m', n', by rw [fin, eR], q⟩
      · exact Or.inr ⟨y, m', n', by rw [fin, eR], q⟩
  · rw [m231] at v3
    rw [eR] at c3
    exact Or.inr ⟨Or.inl fun g => v3 (g i t hi ht), m3, n3, run2 _ (lm_cVe c3), fun r q1 q2 => by rw [f3 r q1 (by omega) (by omega) (by omega), f2 r q1 (by omega) (by omega), f1 r q1 (by omega)], N2.tr g3⟩
end LMEC
