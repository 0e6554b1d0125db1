/-! ===== SLH of the class: the random bytes, the chosen places ===== -/
def lm_tri3 (n1 n2 : Nat) (A B E : Nat → Int32) (t : Nat) : Int32 := if t < n1 then A t else if t < n1 + n2 then B (t - n1) else E (t - n1 - n2)
theorem lm_tri3_0 {n1 n2 t : Nat} {A B E : Nat → Int32} (h : t < n1) : lm_tri3 n1 n2 A B E t = A t := by unfold lm_tri3; rw [if_pos h]
theorem lm_tri3_1 {n1 n2 t : Nat} {A B E : Nat → Int32} (h : t < n2) : lm_tri3 n1 n2 A B E (n1 + t) = B t := by
  unfold lm_tri3
  rw [if_neg (by omega), if_pos (by omega), Nat.add_sub_cancel_left]
theorem lm_tri3_2 {n1 n2 t : Nat} {A B E : Nat → Int32} : lm_tri3 n1 n2 A B E (n1 + n2 + t) = E t := by
  unfold lm_tri3
  rw [if_neg (by omega), if_neg (by omega), show n1 + n2 + t - n1 - n2 = t by omega]
theorem lm_tri3_x {n1 n2 l t : Nat} {A A' B B' E E' : Nat → Int32} (h1 : ∀ t, t < n1 → A t = A' t) (h2 : ∀ t, t < n2 → B t = B' t) (h3 : ∀ t, t < l → E t = E' t) (ht : t < n1 + n2 + l) : lm_tri3 n1 n2 A B E t = lm_tri3 n1 n2 A' B' E' t := by
  unfold lm_tri3
  by_cases c : t < n1
  · rw [if_pos c, if_pos c, h1 t c]
  · rw [if_neg c, if_neg c]
    by_cases c2 : t < n1 + n2
    · rw [if_pos c2, if_pos c2, h2 _ (by omega)]
    · rw [if_neg c2, if_neg c2, h3 _ (by omega)]
def lm_kyx (l : Nat) (K : Nat → Int32) (i : Nat) : Int32 := if i < l then K i else 0
def lm_mcc (C : lm_CX) (b : Nat) (kb : Nat → Int32) (h : lm_HV) (i : Nat) : Int32 := lm_ou C.1 b (lm_rate b) (lm_hf C.1 b (lm_rate b) (lm_mo C.1 b kb h (lm_ms0 C b))).2.2.1 i
def lm_kg (n : Nat) (K : Nat → Int32) (t : Nat) : Int32 := lm_b8 (lm_kyx n K t ^^^ Int32.ofInt 54)
def lm_rnd (C : lm_CX) (s : Nat) (K Rn Sg : Nat → Int32) (sl i : Nat) : Int32 := lm_b8 (cond (lm_sk s) (lm_Hm C 12 (lm_tri3 (lm_sn s) (lm_sn s) K Rn Sg) (lm_sn s + lm_sn s + sl) i) (lm_mcc C (lm_wk s) (lm_kyx (lm_sn s) K) (lm_MS C (lm_wk s) (lm_tri3 (lm_rate (lm_wk s)) (lm_sn s) (lm_kg (lm_sn s) K) Rn Sg) (lm_rate (lm_wk s) + lm_sn s + sl)) i))
/-- what is signed stands ready -/
def lm_Sgd (kk xl ml : Nat) (Sg : Nat → Int32) (m : lm_MI) : Prop := m 42 4 = Int32.ofNat (lm_spl kk xl) ∧ lm_b1 (m 42 5) = lm_z (decide (kk ≤ 1)) ∧ m 32 1 = Int32.ofNat ml ∧ (∀ t, t < lm_spl kk xl → lm_b8 (m 43 t) = Sg t) ∧ (kk ≤ 1 → ∀ t, t < ml → lm_b8 (m 33 t) = Sg (lm_spl kk xl + t))
theorem lm_Sgd.keep {kk xl ml : Nat} {Sg : Nat → Int32} {m m' : lm_MI} (h : lm_Sgd kk xl ml Sg m) (e : ∀ r, r = 32 ∨ r = 33 ∨ r = 42 ∨ r = 43 → m' r = m r) : lm_Sgd kk xl ml Sg m' := ⟨by rw [e 42 (by decide)]; exact h.1, by rw [e 42 (by decide)]; exact h.2.1, by rw [e 32 (by decide)]; exact h.2.2.1, by rw [e 43 (by decide)]; exact h.2.2.2.1, by rw [e 33 (by decide)]; exact h.2.2.2.2⟩
theorem lm_wk_f {s : Nat} (h : ¬ s < 6) : lm_wk s = 1 ∨ lm_wk s = 3 := by
  unfold lm_wk
  rw [if_neg h]
  split
  · exact Or.inl rfl
  · exact Or.inr rfl
theorem lm_wk_r {k : Nat} (h : k = 1 ∨ k = 3) : 1 ≤ k ∧ k ≤ 6 ∧ k ≤ 12 ∧ 64 ≤ lm_rate k ∧ lm_rate k ≤ 128 ∧ 32 ≤ lm_dg k ∧ lm_dg k ≤ 64 := by
  rcases h with e | e <;> subst e <;> decide
section LMTL
variable {xs : List Int32} {C : lm_CX} {d s k l a q v p w kk xl ml : Nat} {m m' : lm_MI} {n n' : lm_ML} {x : lm_H × Nat × Nat} {K Rn Sg G QR Rb : Nat → Int32}
theorem lm_u138k (hC : lm_Cok xs C) (hr : ln_rt m) (hk : k = 1 ∨ k = 3) (hq : q < 5 ∨ 25 < q) (har : lm_ar q = some (1, v)) (hlv : a + l ≤ v) (hl : l ≤ 32) (hK : ∀ t, t < l → lm_b8 (m q (a + t)) = K t) (hG : ∀ t, t < lm_rate k → G t = lm_kg l K t) : ∃ m' n', lm_cal (lm_sc xs) (d + 5) 138 [.ref 4, .int (Int32.ofNat k), .ref q, .int (Int32.ofNat a), .int (Int32.ofNat l)] (lm_w m n x) = some (.ok (some (.ref (lm_obj k))), lm_w m' n' x) ∧ lm_CS m' n' k (lm_MS C k G (lm_rate k)) ∧ (∀ i, i < 128 → lm_b8 (m' 23 i) = lm_b8 (lm_kyx l K i ^^^ Int32.ofInt 54)) ∧ lm_fD m n m' n' := by
  obtain ⟨h1, h6, h12, hr1, hr2, _, _⟩ := lm_wk_r hk
  obtain ⟨m1, n1, c1, s1, f1⟩ := lm_cS (xs := xs) (d := d + 1) (x := x) (m := m) (n := n) (k := k) (G := G) hC hr h1 h12
  generalize eM2 : lm_fil m1 23 0 128 (fun _ => Int32.ofInt 0) = M2
  have r2 : ∀ r, r ≠ 23 → M2 r = m1 r := fun r hr => by rw [← eM2, lm_fl_row hr]
  have s2 : lm_CS M2 n1 k (lm_MS C k G 0) := lm_CS_m h1 h12 s1 (fun r _ _ => r2 r (by omega)) (fun _ _ _ => rfl)
  generalize eM3 : lm_cp M2 23 0 q a l = M3
  have r3 : ∀ r, r ≠ 23 → M3 r = M2 r := fun r hr => by rw [← eM3, lm_cp_row hr]
  have s3 : lm_CS M3 n1 k (lm_MS C k G 0) := lm_CS_m h1 h12 s2 (fun r _ _ => r3 r (by omega)) (fun _ _ _ => rfl)
  have k3 : ∀ i, i < 128 → lm_b8 (M3 23 i) = lm_kyx l K i := fun i hi => by
    unfold lm_kyx
    rw [← eM3, lm_rc]
    by_cases c : i < l
    · rw [if_pos (by omega), if_pos c, r2 q (by omega), f1.1 q (by omega), ← hK i c]
      congr 2
      omega
    · rw [if_neg (by omega), if_neg c, ← eM2, lm_fl_in (by omega)]
      decide
  generalize eM4 : lm_fil M3 23 0 128 (fun i => lm_b8 (lm_b8 (M3 23 i) ^^^ lm_b8 (Int32.ofInt 54))) = M4
  have r4 : ∀ r, r ≠ 23 → M4 r = M3 r := fun r hr => by rw [← eM4, lm_fl_row hr]
  have s4 : lm_CS M4 n1 k (lm_MS C k G 0) := lm_CS_m h1 h12 s3 (fun r _ _ => r4 r (by omega)) (fun _ _ _ => rfl)
  have k4 : ∀ i, i < 128 → lm_b8 (M4 23 i) = lm_b8 (lm_kyx l K i ^^^ Int32.ofInt 54) := fun i hi => by
    rw [← eM4, lm_fl_in (by omega), lm_b8b, k3 i hi, show lm_b8 (Int32.ofInt 54) = Int32.ofInt 54 by decide]
  obtain ⟨m5, n5, c5, s5, f5⟩ := lm_cA (xs := xs) (d := d) (x := x) (m := M4) (n := n1) (k := k) (q := 23) (v := 128) (a := 0) (l := lm_rate k) (L := 0) (G := G) hC h1 h12 (by decide) rfl (by omega) (by decide) (fun t ht => by rw [Nat.zero_add, k4 t (by omega), hG t ht]; rfl) s4
  rw [Nat.zero_add] at s5
  have e203 := lm_u203 (sc := lm_sc xs) (d := d + 3) (m := M3) (n := n1) (x := x) (v := Int32.ofInt 54)
  rw [eM4] at e203
  refine ⟨m5, n5, ?_, s5, fun i hi => by rw [f5.1 23 (by decide)]; exact k4 i hi, ⟨fun r hr => by rw [f5.1 r (by omega), r4 r (by omega), r3 r (by omega), r2 r (by omega), f1.1 r (by omega)], fun r hr => by rw [f5.2.1 r hr, f1.2.1 r hr], by rw [f5.2.2.1, r4 11 (by decide), r3 11 (by decide), r2 11 (by decide), f1.2.2.1], by rw [f5.2.2.2, r4 17 (by decide), r3 17 (by decide), r2 17 (by decide), f1.2.2.2]⟩⟩
  have e70 : lm_rn (lm_sc xs) (d + 4) lm_m138.2.2.2.2.1 (lm_reg lm_m138.2.2.2.2.2) (70, [(0, .ref 4), (5, .ref (lm_obj k))], []) (lm_w M3 n1 x) = some (.ok (some (.ref (lm_obj k))), lm_w m5 n5 x) := by
    clear k3 k4 hK hG
    refine lm_e138_70 ?_
    unfold lm_q138_70
    repeat (first
    | ((with_reducible apply lm_sI); exact rfl)
    | ((with_reducible apply lm_sR); exact rfl)
    | ((with_reducible apply lm_sS); exact rfl; exact rfl)
    | ((with_reducible apply lm_sL); exact rfl)
    | ((with_reducible apply lm_sP); exact rfl; exact rfl)
    | ((with_reducible apply lm_sPL); exact rfl; exact rfl)
    | ((with_reducible apply lm_sAA); exact rfl; first | exact rfl | exact lm_roO (by omega) | exact lm_roM (by omega))
    | ((with_reducible apply lm_sI); exact lm_fpL (by omega))
    | ((with_reducible apply lm_sR); exact lm_fpB (by omega))
    | ((with_reducible apply lm_sP); exact lm_fpL (by omega); exact rfl)
    | ((with_reducible apply lm_sS); exact lm_ocO (by omega); exact rfl)
    | ((with_reducible apply lm_sA); exact rfl; omega)
    | ((with_reducible apply lm_sJ); exact rfl; omega)
    | ((with_reducible apply lm_sB); (first | exact rfl | exact lm_arB (by omega) | exact lm_arM (by omega)); omega)
    | ((with_reducible apply lm_wA); exact rfl; omega)
    | ((with_reducible apply lm_wJ); exact rfl; omega)
    | ((with_reducible apply lm_wB); (first | exact rfl | exact lm_arB (by omega) | exact lm_arM (by omega)); omega)
    | ((with_reducible apply lm_sAl); (first | exact rfl | exact lm_arB (by omega) | exact lm_arM (by omega)); omega)
    | ((with_reducible apply lm_iW); decide))
    refine lm_cV e203 ?_
    rw [lm_K0]
    repeat (first
    | ((with_reducible apply lm_sI); exact rfl)
    | ((with_reducible apply lm_sR); exact rfl)
    | ((with_reducible apply lm_sS); exact rfl; exact rfl)
    | ((with_reducible apply lm_sL); exact rfl)
    | ((with_reducible apply lm_sP); exact rfl; exact rfl)
    | ((with_reducible apply lm_sPL); exact rfl; exact rfl)
    | ((with_reducible apply lm_sAA); exact rfl; first | exact rfl | exact lm_roO (by omega) | exact lm_roM (by omega))
    | ((with_reducible apply lm_sI); exact lm_fpL (by omega))
    | ((with_reducible apply lm_sR); exact lm_fpB (by omega))
    | ((with_reducible apply lm_sP); exact lm_fpL (by omega); exact rfl)
    | ((with_reducible apply lm_sS); exact lm_ocO (by omega); exact rfl)
    | ((with_reducible apply lm_sA); exact rfl; omega)
    | ((with_reducible apply lm_sJ); exact rfl; omega)
    | ((with_reducible apply lm_sB); (first | exact rfl | exact lm_arB (by omega) | exact lm_arM (by omega)); omega)
    | ((with_reducible apply lm_wA); exact rfl; omega)
    | ((with_reducible apply lm_wJ); exact rfl; omega)
    | ((with_reducible apply lm_wB); (first | exact rfl | exact lm_arB (by omega) | exact lm_arM (by omega)); omega)
    | ((with_reducible apply lm_sAl); (first | exact rfl | exact lm_arB (by omega) | exact lm_arM (by omega)); omega)
    | ((with_reducible apply lm_iW); decide))
    refine lm_CS_r h1 h12 s4 ?_
    refine lm_selA h1 h12 ?_
    refine lm_cV c5 ?_
    exact rfl
  clear k3 k4 hK hG
  refine lm_cal_of (Y := lm_m138) rfl rfl (lm_e138_0 ?_)
  unfold lm_q138_0
  repeat (first
    | ((with_reducible apply lm_sI); exact rfl)
    | ((with_reducible apply lm_sR); exact rfl)
    | ((with_reducible apply lm_sS); exact rfl; exact rfl)
    | ((with_reducible apply lm_sL); exact rfl)
    | ((with_reducible apply lm_sP); exact rfl; exact rfl)
    | ((with_reducible apply lm_sPL); exact rfl; exact rfl)
    | ((with_reducible apply lm_sAA); exact rfl; first | exact rfl | exact lm_roO (by omega) | exact lm_roM (by omega))
    | ((with_reducible apply lm_sI); exact lm_fpL (by omega))
    | ((with_reducible apply lm_sR); exact lm_fpB (by omega))
    | ((with_reducible apply lm_sP); exact lm_fpL (by omega); exact rfl)
    | ((with_reducible apply lm_sS); exact lm_ocO (by omega); exact rfl)
    | ((with_reducible apply lm_sA); exact rfl; omega)
    | ((with_reducible apply lm_sJ); exact rfl; omega)
    | ((with_reducible apply lm_sB); (first | exact rfl | exact lm_arB (by omega) | exact lm_arM (by omega)); omega)
    | ((with_reducible apply lm_wA); exact rfl; omega)
    | ((with_reducible apply lm_wJ); exact rfl; omega)
    | ((with_reducible apply lm_wB); (first | exact rfl | exact lm_arB (by omega) | exact lm_arM (by omega)); omega)
    | ((with_reducible apply lm_sAl); (first | exact rfl | exact lm_arB (by omega) | exact lm_arM (by omega)); omega)
    | ((with_reducible apply lm_iW); decide))
  refine lm_cR c1 ?_
  repeat (first
    | ((with_reducible apply lm_sI); exact rfl)
    | ((with_reducible apply lm_sR); exact rfl)
    | ((with_reducible apply lm_sS); exact rfl; exact rfl)
    | ((with_reducible apply lm_sL); exact rfl)
    | ((with_reducible apply lm_sP); exact rfl; exact rfl)
    | ((with_reducible apply lm_sPL); exact rfl; exact rfl)
    | ((with_reducible apply lm_sAA); exact rfl; first | exact rfl | exact lm_roO (by omega) | exact lm_roM (by omega))
    | ((with_reducible apply lm_sI); exact lm_fpL (by omega))
    | ((with_reducible apply lm_sR); exact lm_fpB (by omega))
    | ((with_reducible apply lm_sP); exact lm_fpL (by omega); exact rfl)
    | ((with_reducible apply lm_sS); exact lm_ocO (by omega); exact rfl)
    | ((with_reducible apply lm_sA); exact rfl; omega)
    | ((with_reducible apply lm_sJ); exact rfl; omega)
    | ((with_reducible apply lm_sB); (first | exact rfl | exact lm_arB (by omega) | exact lm_arM (by omega)); omega)
    | ((with_reducible apply lm_wA); exact rfl; omega)
    | ((with_reducible apply lm_wJ); exact rfl; omega)
    | ((with_reducible apply lm_wB); (first | exact rfl | exact lm_arB (by omega) | exact lm_arM (by omega)); omega)
    | ((with_reducible apply lm_sAl); (first | exact rfl | exact lm_arB (by omega) | exact lm_arM (by omega)); omega)
    | ((with_reducible apply lm_iW); decide))
  refine lm_cV (lm_u199 (d := d + 3) rfl) ?_
  rw [eM2]
  refine lm_CS_r h1 h12 s2 ?_
  refine lm_leT (by omega) (by omega) (by omega) ?_
  repeat (first
    | ((with_reducible apply lm_sI); exact rfl)
    | ((with_reducible apply lm_sR); exact rfl)
    | ((with_reducible apply lm_sS); exact rfl; exact rfl)
    | ((with_reducible apply lm_sL); exact rfl)
    | ((with_reducible apply lm_sP); exact rfl; exact rfl)
    | ((with_reducible apply lm_sPL); exact rfl; exact rfl)
    | ((with_reducible apply lm_sAA); exact rfl; first | exact rfl | exact lm_roO (by omega) | exact lm_roM (by omega))
    | ((with_reducible apply lm_sI); exact lm_fpL (by omega))
    | ((with_reducible apply lm_sR); exact lm_fpB (by omega))
    | ((with_reducible apply lm_sP); exact lm_fpL (by omega); exact rfl)
    | ((with_reducible apply lm_sS); exact lm_ocO (by omega); exact rfl)
    | ((with_reducible apply lm_sA); exact rfl; omega)
    | ((with_reducible apply lm_sJ); exact rfl; omega)
    | ((with_reducible apply lm_sB); (first | exact rfl | exact lm_arB (by omega) | exact lm_arM (by omega)); omega)
    | ((with_reducible apply lm_wA); exact rfl; omega)
    | ((with_reducible apply lm_wJ); exact rfl; omega)
    | ((with_reducible apply lm_wB); (first | exact rfl | exact lm_arB (by omega) | exact lm_arM (by omega)); omega)
    | ((with_reducible apply lm_sAl); (first | exact rfl | exact lm_arB (by omega) | exact lm_arM (by omega)); omega)
    | ((with_reducible apply lm_iW); decide))
  rw [lm_K0]
  refine lm_sCp har rfl (Or.inr rfl) (by omega) (by omega) ?_
  rw [eM3]
  exact e70
theorem lm_u258 (hC : lm_Cok xs C) (hs : s ≤ 11) (hF : lm_SF m s) (hr : ln_rt m) (hG : lm_Sgd kk xl ml Sg m) (hsp : lm_spl kk xl ≤ 332) (hml : ml ≤ 65536) {q1 v1 : Nat} (h1 : lm_ar q1 = some (1, v1)) (g1 : 25 < q1) (b1 : 2 * lm_sn s ≤ v1) (b1' : v1 ≤ 70000) (hK : ∀ t, t < lm_sn s → lm_b8 (m q1 (lm_sn s + t)) = K t) (h2 : lm_ar q = some (1, v)) (g2 : 25 < q) (b2 : a + lm_sn s ≤ v) (b2' : v ≤ 70000) (hR : ∀ t, t < lm_sn s → lm_b8 (m q (a + t)) = Rn t) (hp : lm_ar p = some (1, w)) (gp : 25 < p) (hw : w ≤ 70000) (hw2 : 32 ≤ w) : ∃ m' n', lm_cal (lm_sc xs) (d + 6) 258 [.ref 194, .ref q1, .ref q, .int (Int32.ofNat a), .ref 42, .ref p] (lm_w m n x) = some (.ok none, lm_w m' n' x) ∧ (∀ r, (r < 5 ∨ 25 < r) → r ≠ p → m' r = m r) ∧ lm_fN m n m' n' ∧ ∀ i, i < lm_sn s → lm_b8 (m' p i) = lm_rnd C s K Rn Sg (lm_sgl kk xl ml) i := by
  have hpar := lm_spar s hs
  by_cases c : s < 6
  · have esk : lm_sk s = true := decide_eq_true c
    generalize eG : lm_tri3 (lm_sn s) (lm_sn s) K Rn Sg = G
    have G0 : ∀ t, t < lm_sn s → G t = K t := fun t ht => by rw [← eG]; exact lm_tri3_0 ht
    have G1 : ∀ t, t < lm_sn s → G (lm_sn s + t) = Rn t := fun t ht => by rw [← eG]; exact lm_tri3_1 ht
    have G2 : ∀ t, G (lm_sn s + lm_sn s + t) = Sg t := fun t => by rw [← eG]; exact lm_tri3_2
    obtain ⟨m1, n1, c1, s1, f1⟩ := lm_cS (xs := xs) (d := d + 2) (x := x) (m := m) (n := n) (k := 12) (G := G) hC hr (by decide) (by decide)
    obtain ⟨m2, n2, c2, s2, f2⟩ := lm_cA (xs := xs) (d := d + 1) (x := x) (k := 12) (q := q1) (v := v1) (a := lm_sn s) (l := lm_sn s) (L := 0) (G := G) hC (by decide) (by decide) (by omega) h1 (by omega) b1' (fun t ht => by rw [f1.1 q1 (by omega), hK t ht, Nat.zero_add, G0 t ht]) s1
    rw [Nat.zero_add] at s2
    have F2 := f1.tr f2
    obtain ⟨m3, n3, c3, s3, f3⟩ := lm_cA (xs := xs) (d := d + 1) (x := x) (k := 12) (q := q) (v := v) (a := a) (l := lm_sn s) (L := lm_sn s) (G := G) hC (by decide) (by decide) (by omega) h2 b2 b2' (fun t ht => by rw [F2.1 q (by omega), hR t ht, G1 t ht]) s2
    have F3 := F2.tr f3
    have hG3 := hG.keep (m' := m3) (fun r hr => F3.1 r (by omega))
    obtain ⟨m4, n4, c4, s4, f4⟩ := lm_u295 (xs := xs) (d := d) (x := x) (k := 12) (G := G) hC (by decide) (by decide) hsp hG3.1 hG3.2.1 hG3.2.2.1 hml (fun t ht => by rw [hG3.2.2.2.1 t ht, G2]) (fun hk t ht => by rw [hG3.2.2.2.2 hk t ht, Nat.add_assoc, G2]) s3
    have F4 := F3.tr f4
    obtain ⟨m5, n5, c5, f5⟩ := lm_cF (xs := xs) (d := d + 1) (x := x) (k := 12) (q := p) (v := w) (a := 0) (l := lm_sn s) hC (by decide) (by decide) (by omega) hp (by omega) hw (fun h => absurd h (by decide)) s4
    have F5 := F4.tr f5
    generalize eM : lm_fil m5 p 0 (0 + lm_sn s) (fun i => lm_Hm C 12 G (lm_sn s + lm_sn s + lm_sgl kk xl ml) (i - 0)) = M at c5
    have rM : ∀ r, r ≠ p → M r = m5 r := fun r hr => by rw [← eM, lm_fl_row hr]
    refine ⟨M, n5, ?_, fun r r1 r2 => by rw [rM r r2, F5.1 r (by omega)], ⟨F5.2.1, by rw [rM 11 (by omega)]; exact F5.2.2.1, by rw [rM 17 (by omega)]; exact F5.2.2.2⟩, fun i hi => ?_⟩
    · clear G0 G1 G2 hK hR eM
      refine lm_cal_of (Y := lm_m258) rfl rfl (lm_e258_0 ?_)
      unfold lm_q258_0
      refine lm_sIz rfl ?_
      simp only [Nat.reduceDiv, Nat.reduceMod]
      rw [hF.1, esk]
      refine lm_iF (show ¬ (1 : Int32) = 0 by decide) ?_
      rw [lm_K12, lm_K0]
      repeat (first
    | ((with_reducible apply lm_sI); exact rfl)
    | ((with_reducible apply lm_sR); exact rfl)
    | ((with_reducible apply lm_sS); exact rfl; exact rfl)
    | ((with_reducible apply lm_sL); exact rfl)
    | ((with_reducible apply lm_sP); exact rfl; exact rfl)
    | ((with_reducible apply lm_sPL); exact rfl; exact rfl)
    | ((with_reducible apply lm_sAA); exact rfl; exact rfl)
    | ((with_reducible apply lm_sA); (first | exact rfl | assumption); omega)
    | ((with_reducible apply lm_sJ); (first | exact rfl | assumption); omega)
    | ((with_reducible apply lm_sB); (first | exact rfl | assumption); omega)
    | ((with_reducible apply lm_wA); (first | exact rfl | assumption); omega)
    | ((with_reducible apply lm_wJ); (first | exact rfl | assumption); omega)
    | ((with_reducible apply lm_wB); (first | exact rfl | assumption); omega)
    | ((with_reducible apply lm_sAl); (first | exact rfl | assumption); omega)
    | ((with_reducible apply lm_iW); decide))
      refine lm_cR c1 ?_
      repeat (first
    | ((with_reducible apply lm_sI); exact rfl)
    | ((with_reducible apply lm_sR); exact rfl)
    | ((with_reducible apply lm_sS); exact rfl; exact rfl)
    | ((with_reducible apply lm_sL); exact rfl)
    | ((with_reducible apply lm_sP); exact rfl; exact rfl)
    | ((with_reducible apply lm_sPL); exact rfl; exact rfl)
    | ((with_reducible apply lm_sAA); exact rfl; exact rfl)
    | ((with_reducible apply lm_sA); (first | exact rfl | assumption); omega)
    | ((with_reducible apply lm_sJ); (first | exact rfl | assumption); omega)
    | ((with_reducible apply lm_sB); (first | exact rfl | assumption); omega)
    | ((with_reducible apply lm_wA); (first | exact rfl | assumption); omega)
    | ((with_reducible apply lm_wJ); (first | exact rfl | assumption); omega)
    | ((with_reducible apply lm_wB); (first | exact rfl | assumption); omega)
    | ((with_reducible apply lm_sAl); (first | exact rfl | assumption); omega)
    | ((with_reducible apply lm_iW); decide))
      simp only [Nat.reduceDiv, Nat.reduceMod]
      rw [f1.1 194 (by decide), hF.2.1]
      refine lm_cV c2 ?_
      repeat (first
    | ((with_reducible apply lm_sI); exact rfl)
    | ((with_reducible apply lm_sR); exact rfl)
    | ((with_reducible apply lm_sS); exact rfl; exact rfl)
    | ((with_reducible apply lm_sL); exact rfl)
    | ((with_reducible apply lm_sP); exact rfl; exact rfl)
    | ((with_reducible apply lm_sPL); exact rfl; exact rfl)
    | ((with_reducible apply lm_sAA); exact rfl; exact rfl)
    | ((with_reducible apply lm_sA); (first | exact rfl | assumption); omega)
    | ((with_reducible apply lm_sJ); (first | exact rfl | assumption); omega)
    | ((with_reducible apply lm_sB); (first | exact rfl | assumption); omega)
    | ((with_reducible apply lm_wA); (first | exact rfl | assumption); omega)
    | ((with_reducible apply lm_wJ); (first | exact rfl | assumption); omega)
    | ((with_reducible apply lm_wB); (first | exact rfl | assumption); omega)
    | ((with_reducible apply lm_sAl); (first | exact rfl | assumption); omega)
    | ((with_reducible apply lm_iW); decide))
      simp only [Nat.reduceDiv, Nat.reduceMod]
      rw [F2.1 194 (by decide), hF.2.1]
      refine lm_cV c3 ?_
      repeat (first
    | ((with_reducible apply lm_sI); exact rfl)
    | ((with_reducible apply lm_sR); exact rfl)
    | ((with_reducible apply lm_sS); exact rfl; exact rfl)
    | ((with_reducible apply lm_sL); exact rfl)
    | ((with_reducible apply lm_sP); exact rfl; exact rfl)
    | ((with_reducible apply lm_sPL); exact rfl; exact rfl)
    | ((with_reducible apply lm_sAA); exact rfl; exact rfl)
    | ((with_reducible apply lm_sA); (first | exact rfl | assumption); omega)
    | ((with_reducible apply lm_sJ); (first | exact rfl | assumption); omega)
    | ((with_reducible apply lm_sB); (first | exact rfl | assumption); omega)
    | ((with_reducible apply lm_wA); (first | exact rfl | assumption); omega)
    | ((with_reducible apply lm_wJ); (first | exact rfl | assumption); omega)
    | ((with_reducible apply lm_wB); (first | exact rfl | assumption); omega)
    | ((with_reducible apply lm_sAl); (first | exact rfl | assumption); omega)
    | ((with_reducible apply lm_iW); decide))
      refine lm_cV c4 ?_
      repeat (first
    | ((with_reducible apply lm_sI); exact rfl)
    | ((with_reducible apply lm_sR); exact rfl)
    | ((with_reducible apply lm_sS); exact rfl; exact rfl)
    | ((with_reducible apply lm_sL); exact rfl)
    | ((with_reducible apply lm_sP); exact rfl; exact rfl)
    | ((with_reducible apply lm_sPL); exact rfl; exact rfl)
    | ((with_reducible apply lm_sAA); exact rfl; exact rfl)
    | ((with_reducible apply lm_sA); (first | exact rfl | assumption); omega)
    | ((with_reducible apply lm_sJ); (first | exact rfl | assumption); omega)
    | ((with_reducible apply lm_sB); (first | exact rfl | assumption); omega)
    | ((with_reducible apply lm_wA); (first | exact rfl | assumption); omega)
    | ((with_reducible apply lm_wJ); (first | exact rfl | assumption); omega)
    | ((with_reducible apply lm_wB); (first | exact rfl | assumption); omega)
    | ((with_reducible apply lm_sAl); (first | exact rfl | assumption); omega)
    | ((with_reducible apply lm_iW); decide))
      simp only [Nat.reduceDiv, Nat.reduceMod]
      rw [F4.1 194 (by decide), hF.2.1]
      exact lm_cV c5 rfl
    · rw [← eM, lm_fl_in (by omega), Nat.sub_zero]
      unfold lm_rnd
      rw [esk, eG]
      rfl
  · have esk : lm_sk s = false := decide_eq_false c
    have hk := lm_wk_f c
    obtain ⟨k1, k6, k12, kr1, kr2, kd1, kd2⟩ := lm_wk_r hk
    have e11 : m 194 11 = Int32.ofNat (lm_wk s) := hF.2.2.2.2.2.2.2.2.1
    unfold lm_rnd
    rw [esk]
    generalize lm_wk s = k at *
    generalize eG : lm_tri3 (lm_rate k) (lm_sn s) (lm_kg (lm_sn s) K) Rn Sg = G
    have G0 : ∀ t, t < lm_rate k → G t = lm_kg (lm_sn s) K t := fun t ht => by rw [← eG]; exact lm_tri3_0 ht
    have G1 : ∀ t, t < lm_sn s → G (lm_rate k + t) = Rn t := fun t ht => by rw [← eG]; exact lm_tri3_1 ht
    have G2 : ∀ t, G (lm_rate k + lm_sn s + t) = Sg t := fun t => by rw [← eG]; exact lm_tri3_2
    obtain ⟨m1, n1, c1, s1, K1, f1⟩ := lm_u138k (xs := xs) (d := d) (x := x) (m := m) (n := n) (k := k) (G := G) (K := K) (q := q1) (a := lm_sn s) (l := lm_sn s) hC hr hk (by omega) h1 (by omega) hpar.1 hK G0
    obtain ⟨m3, n3, c3, s3, f3⟩ := lm_cA (xs := xs) (d := d + 1) (x := x) (k := k) (q := q) (v := v) (a := a) (l := lm_sn s) (L := lm_rate k) (G := G) hC k1 k12 (by omega) h2 b2 b2' (fun t ht => by rw [f1.1 q (by omega), hR t ht, G1 t ht]) s1
    have F3 := f1.tr f3.D
    have hG3 := hG.keep (m' := m3) (fun r hr => F3.1 r (by omega))
    obtain ⟨m4, n4, c4, s4, f4⟩ := lm_u295 (xs := xs) (d := d) (x := x) (k := k) (G := G) hC k1 k12 hsp hG3.1 hG3.2.1 hG3.2.2.1 hml (fun t ht => by rw [hG3.2.2.2.1 t ht, G2]) (fun hk t ht => by rw [hG3.2.2.2.2 hk t ht, Nat.add_assoc, G2]) s3
    have F4 := F3.tr f4.D
    obtain ⟨n0, hI, e0⟩ := hC.2
    have rt4 : ln_rt m4 := ⟨F4.2.2.1.trans hr.1, F4.2.2.2.trans hr.2⟩
    obtain ⟨m5, n5, c5, f5⟩ := lm_u141 (xs := xs) (d := d) (x := x) (b := k) (T := C.1) (nr := n0) (q := p) (v := w) (a := 0) (L := lm_sn s) (h0 := lm_ms0 C k) (kb := lm_kyx (lm_sn s) K) (J := fun _ => 0) (bb := fun _ => 0) hC.1 hI rt4.1 rt4.2 k1 k6 (by omega) hp (by omega) hw (by omega) (by unfold lm_ms0; rw [e0]) (fun i hi => by rw [f4.1 23 (by decide), f3.1 23 (by decide)]; exact K1 i hi) lm_MS_lt s4
    have F5 := F4.tr f5
    generalize eM : lm_fil m5 p 0 (0 + lm_sn s) (fun i => lm_ou C.1 k (lm_rate k) (lm_hf C.1 k (lm_rate k) (lm_mo C.1 k (lm_kyx (lm_sn s) K) (lm_MS C k G (lm_rate k + lm_sn s + lm_sgl kk xl ml)) (lm_ms0 C k))).2.2.1 (i - 0)) = M at c5
    have rM : ∀ r, r ≠ p → M r = m5 r := fun r hr => by rw [← eM, lm_fl_row hr]
    refine ⟨M, n5, ?_, fun r r1 r2 => by rw [rM r r2, F5.1 r (by omega)], ⟨F5.2.1, by rw [rM 11 (by omega)]; exact F5.2.2.1, by rw [rM 17 (by omega)]; exact F5.2.2.2⟩, fun i hi => ?_⟩
    · clear G0 G1 G2 hK hR eM K1
      refine lm_cal_of (Y := lm_m258) rfl rfl (lm_e258_0 ?_)
      unfold lm_q258_0
      refine lm_sIz rfl ?_
      simp only [Nat.reduceDiv, Nat.reduceMod]
      rw [hF.1, esk]
      refine lm_iT (show (0 : Int32) = 0 by decide) ?_
      rw [lm_K0]
      repeat (first
    | ((with_reducible apply lm_sI); exact rfl)
    | ((with_reducible apply lm_sR); exact rfl)
    | ((with_reducible apply lm_sS); exact rfl; exact rfl)
    | ((with_reducible apply lm_sL); exact rfl)
    | ((with_reducible apply lm_sP); exact rfl; exact rfl)
    | ((with_reducible apply lm_sPL); exact rfl; exact rfl)
    | ((with_reducible apply lm_sAA); exact rfl; exact rfl)
    | ((with_reducible apply lm_sA); (first | exact rfl | assumption); omega)
    | ((with_reducible apply lm_sJ); (first | exact rfl | assumption); omega)
    | ((with_reducible apply lm_sB); (first | exact rfl | assumption); omega)
    | ((with_reducible apply lm_wA); (first | exact rfl | assumption); omega)
    | ((with_reducible apply lm_wJ); (first | exact rfl | assumption); omega)
    | ((with_reducible apply lm_wB); (first | exact rfl | assumption); omega)
    | ((with_reducible apply lm_sAl); (first | exact rfl | assumption); omega)
    | ((with_reducible apply lm_iW); decide))
      simp only [Nat.reduceDiv, Nat.reduceMod]
      rw [e11, hF.2.1]
      refine lm_cR c1 ?_
      repeat (first
    | ((with_reducible apply lm_sI); exact rfl)
    | ((with_reducible apply lm_sR); exact rfl)
    | ((with_reducible apply lm_sS); exact rfl; exact rfl)
    | ((with_reducible apply lm_sL); exact rfl)
    | ((with_reducible apply lm_sP); exact rfl; exact rfl)
    | ((with_reducible apply lm_sPL); exact rfl; exact rfl)
    | ((with_reducible apply lm_sAA); exact rfl; exact rfl)
    | ((with_reducible apply lm_sA); (first | exact rfl | assumption); omega)
    | ((with_reducible apply lm_sJ); (first | exact rfl | assumption); omega)
    | ((with_reducible apply lm_sB); (first | exact rfl | assumption); omega)
    | ((with_reducible apply lm_wA); (first | exact rfl | assumption); omega)
    | ((with_reducible apply lm_wJ); (first | exact rfl | assumption); omega)
    | ((with_reducible apply lm_wB); (first | exact rfl | assumption); omega)
    | ((with_reducible apply lm_sAl); (first | exact rfl | assumption); omega)
    | ((with_reducible apply lm_iW); decide))
      simp only [Nat.reduceDiv, Nat.reduceMod]
      rw [f1.1 194 (by decide), hF.2.1]
      refine lm_selA k1 k12 ?_
      refine lm_cV c3 ?_
      repeat (first
    | ((with_reducible apply lm_sI); exact rfl)
    | ((with_reducible apply lm_sR); exact rfl)
    | ((with_reducible apply lm_sS); exact rfl; exact rfl)
    | ((with_reducible apply lm_sL); exact rfl)
    | ((with_reducible apply lm_sP); exact rfl; exact rfl)
    | ((with_reducible apply lm_sPL); exact rfl; exact rfl)
    | ((with_reducible apply lm_sAA); exact rfl; exact rfl)
    | ((with_reducible apply lm_sA); (first | exact rfl | assumption); omega)
    | ((with_reducible apply lm_sJ); (first | exact rfl | assumption); omega)
    | ((with_reducible apply lm_sB); (first | exact rfl | assumption); omega)
    | ((with_reducible apply lm_wA); (first | exact rfl | assumption); omega)
    | ((with_reducible apply lm_wJ); (first | exact rfl | assumption); omega)
    | ((with_reducible apply lm_wB); (first | exact rfl | assumption); omega)
    | ((with_reducible apply lm_sAl); (first | exact rfl | assumption); omega)
    | ((with_reducible apply lm_iW); decide))
      refine lm_cV c4 ?_
      repeat (first
    | ((with_reducible apply lm_sI); exact rfl)
    | ((with_reducible apply lm_sR); exact rfl)
    | ((with_reducible apply lm_sS); exact rfl; exact rfl)
    | ((with_reducible apply lm_sL); exact rfl)
    | ((with_reducible apply lm_sP); exact rfl; exact rfl)
    | ((with_reducible apply lm_sPL); exact rfl; exact rfl)
    | ((with_reducible apply lm_sAA); exact rfl; exact rfl)
    | ((with_reducible apply lm_sA); (first | exact rfl | assumption); omega)
    | ((with_reducible apply lm_sJ); (first | exact rfl | assumption); omega)
    | ((with_reducible apply lm_sB); (first | exact rfl | assumption); omega)
    | ((with_reducible apply lm_wA); (first | exact rfl | assumption); omega)
    | ((with_reducible apply lm_wJ); (first | exact rfl | assumption); omega)
    | ((with_reducible apply lm_wB); (first | exact rfl | assumption); omega)
    | ((with_reducible apply lm_sAl); (first | exact rfl | assumption); omega)
    | ((with_reducible apply lm_iW); decide))
      simp only [Nat.reduceDiv, Nat.reduceMod]
      rw [F4.1 194 (by decide), hF.2.1, e11]
      exact lm_cV c5 rfl
    · rw [← eM, lm_fl_in (by omega), Nat.sub_zero]
      rfl
end LMTL
