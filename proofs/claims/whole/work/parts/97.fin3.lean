/-! ===== finish of the class's sponge ===== -/
theorem lm_xsh (a b s : Int64) : (a ^^^ b) <<< s = (a <<< s) ^^^ (b <<< s) := by
  apply Int64.toBitVec_inj.mp
  exact BitVec.shiftLeft_xor_distrib _ _ _
theorem lm_flp2 {S : Nat → Int64} {f : Nat} {v v1 v2 : Int32} (h : (Int32.toInt64 v) &&& (Int64.ofNat 255) = ((Int32.toInt64 v1) &&& (Int64.ofNat 255)) ^^^ ((Int32.toInt64 v2) &&& (Int64.ofNat 255))) : lm_flp S f v = lm_flp (lm_flp S f v1) f v2 := by
  funext i
  unfold lm_flp
  by_cases c : i = f / 8
  · rw [if_pos c, if_pos c, if_pos c, h, lm_xsh, Int64.xor_assoc]
  · rw [if_neg c, if_neg c, if_neg c]
theorem lm_flp_c {S : Nat → Int64} {f : Nat} {v v1 : Int32} (h : (Int32.toInt64 v) &&& (Int64.ofNat 255) = (Int32.toInt64 v1) &&& (Int64.ofNat 255)) : lm_flp S f v = lm_flp S f v1 := by
  unfold lm_flp
  rw [h]
theorem lm_0sh (s : Int64) : (0 : Int64) <<< s = 0 := by
  apply Int64.toBitVec_inj.mp
  exact BitVec.zero_shiftLeft _
theorem lm_flp_0 {S : Nat → Int64} {f : Nat} {v : Int32} (h : (Int32.toInt64 v) &&& (Int64.ofNat 255) = 0) : lm_flp S f v = S := by
  funext i
  unfold lm_flp
  by_cases c : i = f / 8
  · rw [if_pos c, h, lm_0sh, Int64.xor_zero]
  · rw [if_neg c]
theorem lm_fls_0 {b : Nat → Int32} : ∀ c f (S : Nat → Int64), (∀ i, f ≤ i → i < f + c → (Int32.toInt64 (b i)) &&& (Int64.ofNat 255) = 0) → lm_fls b c f S = S := by
  intro c
  induction c with
  | zero => intro f S _; rfl
  | succ c ih =>
    intro f S h
    show lm_fls b c (f + 1) (lm_flp S f (b f)) = S
    rw [lm_flp_0 (h f (by omega) (by omega))]
    exact ih (f + 1) S (fun i h1 h2 => h i (by omega) (by omega))
/-- j permutations -/
def lm_kN (tr : Nat → Int32) (rc : Nat → Int64) : Nat → (Nat → Int64) → Nat → Int64
  | 0, S => S
  | j + 1, S => lm_kF tr rc 24 0 (lm_kN tr rc j S)
theorem lm_kN_lo {tr tr' : Nat → Int32} {rc rc' : Nat → Int64} (ht : ∀ i, i < 25 → tr i = tr' i) (hc : ∀ t, t < 24 → rc t = rc' t) {S S' : Nat → Int64} (h : ∀ i, i < 25 → S i = S' i) : ∀ j, ∀ i, i < 25 → lm_kN tr rc j S i = lm_kN tr' rc' j S' i := by
  intro j
  induction j with
  | zero => exact h
  | succ j ih => exact lm_kF_lo ht hc 24 0 _ _ (by decide) ih
/-- a byte of a state -/
def lm_og (S : Nat → Int64) (i : Nat) : Int32 := lm_b8 (Int64.toInt32 (lm_uL (S (i / 8)) (Int32.ofNat (8 * (i % 8)))))
/-- a byte of what is squeezed -/
def lm_ok (tr : Nat → Int32) (rc : Nat → Int64) (r : Nat) (S : Nat → Int64) (i : Nat) : Int32 := lm_og (lm_kN tr rc (i / r) S) (i % r)
theorem lm_ok_lo {tr tr' : Nat → Int32} {rc rc' : Nat → Int64} (ht : ∀ i, i < 25 → tr i = tr' i) (hc : ∀ t, t < 24 → rc t = rc' t) {S S' : Nat → Int64} (h : ∀ i, i < 25 → S i = S' i) {r : Nat} (h0 : 0 < r) (hr : r ≤ 200) (i : Nat) : lm_ok tr rc r S i = lm_ok tr' rc' r S' i := by
  have h1 : i % r < r := Nat.mod_lt _ h0
  unfold lm_ok lm_og
  rw [lm_kN_lo ht hc h (i / r) (i % r / 8) (by omega)]
theorem lm_an8 : ∀ i, i < 256 → ((Int32.ofNat i) &&& (Int32.ofInt 7)) <<< ((Int32.ofInt 3) &&& 31) = Int32.ofNat (8 * (i % 8)) := by decide +kernel
theorem lm_fl_cat {α : Type} {m : Nat → Nat → α} {q a b c : Nat} {g : Nat → α} (h1 : a ≤ b) (h2 : b ≤ c) : lm_fil (lm_fil m q a b g) q b c g = lm_fil m q a c g := by
  funext p i
  rw [lm_rf, lm_rf, lm_rf]
  by_cases e : p = q ∧ b ≤ i ∧ i < c
  · rw [if_pos e, if_pos (by omega)]
  · rw [if_neg e]
    by_cases e2 : p = q ∧ a ≤ i ∧ i < b
    · rw [if_pos e2, if_pos (by omega)]
    · rw [if_neg e2, if_neg (by omega)]
theorem lm_fl_ext {α : Type} {m : Nat → Nat → α} {q a b : Nat} {g g' : Nat → α} (h : ∀ i, a ≤ i → i < b → g i = g' i) : lm_fil m q a b g = lm_fil m q a b g' := by
  funext p i
  rw [lm_rf, lm_rf]
  by_cases e : p = q ∧ a ≤ i ∧ i < b
  · rw [if_pos e, if_pos e, h i e.2.1 e.2.2]
  · rw [if_neg e, if_neg e]
section LMFS
variable {sc : lm_H} {d k r : Nat} {m : lm_MI} {n : lm_ML} {x : lm_H × Nat × Nat} {h : lm_HV} {T : lm_TB}
theorem lm_l211 {q v a l : Nat} (har : lm_ar q = some (1, v)) (hal : a + l ≤ v) (hv : v ≤ 70000) (hl : l ≤ 168) : ∀ j t, t + j = l → lm_rn sc d lm_m211.2.2.2.2.1 (lm_reg lm_m211.2.2.2.2.2) (3, [(0, .ref 5), (1, .ref q), (2, .int (Int32.ofNat a)), (3, .int (Int32.ofNat l)), (4, .int (Int32.ofNat t))], []) (lm_w (lm_fil m q a (a + t) (fun i => lm_og (n 8) (i - a))) n x) = some (.ok none, lm_w (lm_fil m q a (a + l) (fun i => lm_og (n 8) (i - a))) n x) := by
  intro j
  induction j with
  | zero =>
    intro t ht
    have ht : t = l := ht
    subst ht
    refine lm_e211_3 ?_
    unfold lm_q211_3
    exact lm_geT (by omega) (by omega) (by omega) rfl
  | succ j ih =>
    intro t ht
    have I := ih (t + 1) (by omega)
    rw [← Nat.add_assoc a t 1, ← lm_fl_step (g := fun i => lm_og (n 8) (i - a)) (by omega)] at I
    refine lm_e211_3 ?_
    unfold lm_q211_3
    refine lm_geF (by omega) (by omega) (by omega) ?_
    rw [lm_sh3 t (by omega), lm_an8 t (by omega), lm_oo]
    repeat (first
    | ((with_reducible apply lm_sI); exact rfl)
    | ((with_reducible apply lm_sR); exact rfl)
    | ((with_reducible apply lm_sS); exact rfl; exact rfl)
    | ((with_reducible apply lm_sL); exact rfl)
    | ((with_reducible apply lm_sP); exact rfl; exact rfl)
    | ((with_reducible apply lm_sPL); exact rfl; exact rfl)
    | ((with_reducible apply lm_sAA); exact rfl; first | exact rfl | exact lm_roO (by omega) | exact lm_roM (by omega))
    | ((with_reducible apply lm_sI); exact lm_fpL (by omega))
    | ((with_reducible apply lm_sR); exact lm_fpB (by omega))
    | ((with_reducible apply lm_sP); exact lm_fpL (by omega); exact rfl)
    | ((with_reducible apply lm_sS); exact lm_ocO (by omega); exact rfl)
    | ((with_reducible apply lm_sA); exact rfl; omega)
    | ((with_reducible apply lm_sJ); exact rfl; omega)
    | ((with_reducible apply lm_sB); (first | exact rfl | exact lm_arB (by omega) | exact lm_arM (by omega)); omega)
    | ((with_reducible apply lm_wA); exact rfl; omega)
    | ((with_reducible apply lm_wJ); exact rfl; omega)
    | ((with_reducible apply lm_wB); (first | exact rfl | exact lm_arB (by omega) | exact lm_arM (by omega)); omega)
    | ((with_reducible apply lm_sAl); (first | exact rfl | exact lm_arB (by omega) | exact lm_arM (by omega)); omega)
    | ((with_reducible apply lm_iW); decide))
    refine lm_wB har (by omega) ?_
    rw [show Int32.ofNat t + Int32.ofInt 1 = Int32.ofNat (t + 1) from lm_oa t 1]
    rw [show lm_og (n 8) (a + t - a) = lm_b8 (Int64.toInt32 (lm_uL (n 8 (t / 8)) (Int32.ofNat (8 * (t % 8))))) by rw [Nat.add_sub_cancel_left]; rfl] at I
    exact I
theorem lm_u211 {q v a l : Nat} (har : lm_ar q = some (1, v)) (hal : a + l ≤ v) (hv : v ≤ 70000) (hl : l ≤ 168) : lm_cal sc (d + 1) 211 [.ref 5, .ref q, .int (Int32.ofNat a), .int (Int32.ofNat l)] (lm_w m n x) = some (.ok none, lm_w (lm_fil m q a (a + l) (fun i => lm_og (n 8) (i - a))) n x) := by
  have L := lm_l211 (sc := sc) (d := d) (m := m) (n := n) (x := x) har hal hv hl l 0 (by omega)
  rw [Nat.add_zero a, lm_fl_nil] at L
  refine lm_cal_of (Y := lm_m211) rfl rfl (lm_e211_0 ?_)
  unfold lm_q211_0
  exact L
theorem lm_l143 {zs : List Int64} {q v a l : Nat} {S : Nat → Int64} (hs : sc[6]? = some (.inr (.inl zs))) (hz : zs.length = 24) (hq : q < 5 ∨ 10 < q) (har : lm_ar q = some (1, v)) (hal : a + l ≤ v) (hv : v ≤ 70000) (hr1 : 64 ≤ r) (hr2 : r ≤ 168) (h1 : m 5 1 = Int32.ofNat r) {n0 : lm_ML} : ∀ u j (n : lm_ML), l ≤ (j + 1) * r + u → n 8 = lm_kN lm_trt (fun t => zs.getD t 0) j S → lm_fkC n0 n → (j + 1) * r ≤ l + 168 → ∃ n', lm_rn sc (d + 2) lm_m143.2.2.2.2.1 (lm_reg lm_m143.2.2.2.2.2) (73, [(0, .ref 5), (1, .ref q), (2, .int (Int32.ofNat a)), (3, .int (Int32.ofNat l)), (4, .int (Int32.ofNat ((j + 1) * r)))], []) (lm_w (lm_fil m q a (a + min l ((j + 1) * r)) (fun i => lm_ok lm_trt (fun t => zs.getD t 0) r S (i - a))) n x) = some (.ok none, lm_w (lm_fil m q a (a + l) (fun i => lm_ok lm_trt (fun t => zs.getD t 0) r S (i - a))) n' x) ∧ lm_fkC n0 n' := by
  intro u
  induction u with
  | zero =>
    intro j n hu hn hf hj
    refine ⟨n, ?_, hf⟩
    rw [Nat.min_eq_left (by omega)]
    refine lm_e143_73 ?_
    unfold lm_q143_73
    exact lm_geT (by omega) (by omega) (by omega) rfl
  | succ u ih =>
    intro j n hu hn hf hj
    by_cases c : l ≤ (j + 1) * r
    · refine ⟨n, ?_, hf⟩
      rw [Nat.min_eq_left (by omega)]
      refine lm_e143_73 ?_
      unfold lm_q143_73
      exact lm_geT (by omega) (by omega) (by omega) rfl
    · rw [Nat.min_eq_right (by omega)]
      have em : (j + 1 + 1) * r = (j + 1) * r + r := by rw [Nat.add_mul (j + 1) 1 r, Nat.one_mul]
      obtain ⟨n1, e1, f1, f2⟩ := lm_u212 (sc := sc) (d := d) (m := lm_fil m q a (a + (j + 1) * r) (fun i => lm_ok lm_trt (fun t => zs.getD t 0) r S (i - a))) (x := x) (n := n) hs hz
      rw [hn] at f1
      obtain ⟨n', e, f⟩ := ih (j + 1) n1 (by omega) f1 (fun p a b => (f2 p a b).trans (hf p a b)) (by omega)
      refine ⟨n', ?_, f⟩
      refine lm_e143_73 ?_
      unfold lm_q143_73
      refine lm_geF (by omega) (by omega) c ?_
      repeat (first
    | ((with_reducible apply lm_sI); exact rfl)
    | ((with_reducible apply lm_sR); exact rfl)
    | ((with_reducible apply lm_sS); exact rfl; exact rfl)
    | ((with_reducible apply lm_sL); exact rfl)
    | ((with_reducible apply lm_sP); exact rfl; exact rfl)
    | ((with_reducible apply lm_sPL); exact rfl; exact rfl)
    | ((with_reducible apply lm_sAA); exact rfl; first | exact rfl | exact lm_roO (by omega) | exact lm_roM (by omega))
    | ((with_reducible apply lm_sI); exact lm_fpL (by omega))
    | ((with_reducible apply lm_sR); exact lm_fpB (by omega))
    | ((with_reducible apply lm_sP); exact lm_fpL (by omega); exact rfl)
    | ((with_reducible apply lm_sS); exact lm_ocO (by omega); exact rfl)
    | ((with_reducible apply lm_sA); exact rfl; omega)
    | ((with_reducible apply lm_sJ); exact rfl; omega)
    | ((with_reducible apply lm_sB); (first | exact rfl | exact lm_arB (by omega) | exact lm_arM (by omega)); omega)
    | ((with_reducible apply lm_wA); exact rfl; omega)
    | ((with_reducible apply lm_wJ); exact rfl; omega)
    | ((with_reducible apply lm_wB); (first | exact rfl | exact lm_arB (by omega) | exact lm_arM (by omega)); omega)
    | ((with_reducible apply lm_sAl); (first | exact rfl | exact lm_arB (by omega) | exact lm_arM (by omega)); omega)
    | ((with_reducible apply lm_iW); decide))
      refine lm_cV e1 ?_
      repeat (first
    | ((with_reducible apply lm_sI); exact rfl)
    | ((with_reducible apply lm_sR); exact rfl)
    | ((with_reducible apply lm_sS); exact rfl; exact rfl)
    | ((with_reducible apply lm_sL); exact rfl)
    | ((with_reducible apply lm_sP); exact rfl; exact rfl)
    | ((with_reducible apply lm_sPL); exact rfl; exact rfl)
    | ((with_reducible apply lm_sAA); exact rfl; first | exact rfl | exact lm_roO (by omega) | exact lm_roM (by omega))
    | ((with_reducible apply lm_sI); exact lm_fpL (by omega))
    | ((with_reducible apply lm_sR); exact lm_fpB (by omega))
    | ((with_reducible apply lm_sP); exact lm_fpL (by omega); exact rfl)
    | ((with_reducible apply lm_sS); exact lm_ocO (by omega); exact rfl)
    | ((with_reducible apply lm_sA); exact rfl; omega)
    | ((with_reducible apply lm_sJ); exact rfl; omega)
    | ((with_reducible apply lm_sB); (first | exact rfl | exact lm_arB (by omega) | exact lm_arM (by omega)); omega)
    | ((with_reducible apply lm_wA); exact rfl; omega)
    | ((with_reducible apply lm_wJ); exact rfl; omega)
    | ((with_reducible apply lm_wB); (first | exact rfl | exact lm_arB (by omega) | exact lm_arM (by omega)); omega)
    | ((with_reducible apply lm_sAl); (first | exact rfl | exact lm_arB (by omega) | exact lm_arM (by omega)); omega)
    | ((with_reducible apply lm_iW); decide))
      simp only [Nat.reduceDiv, Nat.reduceMod]
      rw [lm_fl_row (by omega), h1, lm_osu (by omega)]
      refine lm_cI (lm_u205 (d := d + 1) (by omega) (by omega)) ?_
      repeat (first
    | ((with_reducible apply lm_sI); exact rfl)
    | ((with_reducible apply lm_sR); exact rfl)
    | ((with_reducible apply lm_sS); exact rfl; exact rfl)
    | ((with_reducible apply lm_sL); exact rfl)
    | ((with_reducible apply lm_sP); exact rfl; exact rfl)
    | ((with_reducible apply lm_sPL); exact rfl; exact rfl)
    | ((with_reducible apply lm_sAA); exact rfl; first | exact rfl | exact lm_roO (by omega) | exact lm_roM (by omega))
    | ((with_reducible apply lm_sI); exact lm_fpL (by omega))
    | ((with_reducible apply lm_sR); exact lm_fpB (by omega))
    | ((with_reducible apply lm_sP); exact lm_fpL (by omega); exact rfl)
    | ((with_reducible apply lm_sS); exact lm_ocO (by omega); exact rfl)
    | ((with_reducible apply lm_sA); exact rfl; omega)
    | ((with_reducible apply lm_sJ); exact rfl; omega)
    | ((with_reducible apply lm_sB); (first | exact rfl | exact lm_arB (by omega) | exact lm_arM (by omega)); omega)
    | ((with_reducible apply lm_wA); exact rfl; omega)
    | ((with_reducible apply lm_wJ); exact rfl; omega)
    | ((with_reducible apply lm_wB); (first | exact rfl | exact lm_arB (by omega) | exact lm_arM (by omega)); omega)
    | ((with_reducible apply lm_sAl); (first | exact rfl | exact lm_arB (by omega) | exact lm_arM (by omega)); omega)
    | ((with_reducible apply lm_iW); decide))
      rw [lm_oo]
      refine lm_cV (lm_u211 (d := d + 1) har (by omega) hv (by omega)) ?_
      repeat (first
    | ((with_reducible apply lm_sI); exact rfl)
    | ((with_reducible apply lm_sR); exact rfl)
    | ((with_reducible apply lm_sS); exact rfl; exact rfl)
    | ((with_reducible apply lm_sL); exact rfl)
    | ((with_reducible apply lm_sP); exact rfl; exact rfl)
    | ((with_reducible apply lm_sPL); exact rfl; exact rfl)
    | ((with_reducible apply lm_sAA); exact rfl; first | exact rfl | exact lm_roO (by omega) | exact lm_roM (by omega))
    | ((with_reducible apply lm_sI); exact lm_fpL (by omega))
    | ((with_reducible apply lm_sR); exact lm_fpB (by omega))
    | ((with_reducible apply lm_sP); exact lm_fpL (by omega); exact rfl)
    | ((with_reducible apply lm_sS); exact lm_ocO (by omega); exact rfl)
    | ((with_reducible apply lm_sA); exact rfl; omega)
    | ((with_reducible apply lm_sJ); exact rfl; omega)
    | ((with_reducible apply lm_sB); (first | exact rfl | exact lm_arB (by omega) | exact lm_arM (by omega)); omega)
    | ((with_reducible apply lm_wA); exact rfl; omega)
    | ((with_reducible apply lm_wJ); exact rfl; omega)
    | ((with_reducible apply lm_wB); (first | exact rfl | exact lm_arB (by omega) | exact lm_arM (by omega)); omega)
    | ((with_reducible apply lm_sAl); (first | exact rfl | exact lm_arB (by omega) | exact lm_arM (by omega)); omega)
    | ((with_reducible apply lm_iW); decide))
      simp only [Nat.reduceDiv, Nat.reduceMod]
      rw [lm_fl_row (by omega), lm_fl_row (by omega), h1, lm_oo, ← em]
      rw [lm_fl_ext (g := fun i => lm_og (n1 8) (i - (a + (j + 1) * r))) (g' := fun i => lm_ok lm_trt (fun t => zs.getD t 0) r S (i - a)) (fun i hi1 hi2 => by
        show lm_og (n1 8) _ = lm_og (lm_kN _ _ ((i - a) / r) S) ((i - a) % r)
        have e3 : i - a = (i - (a + (j + 1) * r)) + (j + 1) * r := by omega
        have e4 : i - (a + (j + 1) * r) < r := by omega
        rw [e3, Nat.add_mul_div_right _ _ (by omega), Nat.div_eq_of_lt e4, Nat.add_mul_mod_self_right, Nat.mod_eq_of_lt e4, Nat.zero_add, f1]
        rfl), lm_fl_cat (by omega) (by omega)]
      rw [show a + (j + 1) * r + min (l - (j + 1) * r) r = a + min l ((j + 1 + 1) * r) by omega]
      exact e
/-- the memory behind the padding of a sponge -/
def lm_ms (m : lm_MI) (f r : Nat) (v : Int32) : lm_MI := lm_u (lm_fil (lm_u m 6 f (lm_b8 v)) 6 (f + 1) r (fun _ => Int32.ofInt 0)) 6 (r - 1) (lm_b8 (lm_b8 (lm_fil (lm_u m 6 f (lm_b8 v)) 6 (f + 1) r (fun _ => Int32.ofInt 0) 6 (r - 1)) ^^^ (Int32.ofInt (-128))))
theorem lm_ms_row {f p : Nat} {v : Int32} (h : p ≠ 6) : lm_ms m f r v p = m p := by
  unfold lm_ms
  rw [lm_u_row h, lm_fl_row h, lm_u_row h]
theorem lm_ms_S {f : Nat} {v : Int32} {S : Nat → Int64} (hf : f < r) (hv : v = Int32.ofInt 6 ∨ v = Int32.ofInt 31) : lm_fls (fun i => lm_b8 (lm_ms m f r v 6 i)) r 0 S = lm_flp (lm_flp (lm_fls (fun i => lm_b8 (m 6 i)) f 0 S) f v) (r - 1) (Int32.ofInt 128) := by
  have e0 : ∀ i, i < f → lm_ms m f r v 6 i = m 6 i := fun i hi => by
    unfold lm_ms
    rw [lm_u_ne (by omega), lm_rf, if_neg (by omega), lm_u_ne (by omega)]
  rw [show r = f + (r - f) by omega, lm_fls_add, Nat.zero_add, ← show r = f + (r - f) by omega]
  rw [lm_fls_ext (b := fun i => lm_b8 (lm_ms m f r v 6 i)) (b' := fun i => lm_b8 (m 6 i)) f 0 S (fun i _ hi => by rw [e0 i (by omega)])]
  generalize lm_fls (fun i => lm_b8 (m 6 i)) f 0 S = S1
  by_cases c : f = r - 1
  · have e1 : lm_ms m f r v 6 f = lm_b8 (lm_b8 (lm_b8 v) ^^^ (Int32.ofInt (-128))) := by
      unfold lm_ms
      rw [← c, lm_u_eq, lm_rf, if_neg (by omega), lm_u_eq]
    rw [show r - f = 1 by omega]
    show lm_flp S1 f (lm_b8 (lm_ms m f r v 6 f)) = _
    rw [e1, ← c]
    refine lm_flp2 ?_
    rcases hv with hv | hv
    · subst hv; decide
    · subst hv; decide
  · have e1 : lm_ms m f r v 6 f = lm_b8 v := by
      unfold lm_ms
      rw [lm_u_ne (by omega), lm_rf, if_neg (by omega), lm_u_eq]
    have e2 : ∀ i, f < i → i < r - 1 → lm_ms m f r v 6 i = Int32.ofInt 0 := fun i h1 h2 => by
      unfold lm_ms
      rw [lm_u_ne (by omega), lm_rf, if_pos (by omega)]
    have e3 : lm_ms m f r v 6 (r - 1) = lm_b8 (lm_b8 (Int32.ofInt 0) ^^^ (Int32.ofInt (-128))) := by
      unfold lm_ms
      rw [lm_u_eq, lm_rf, if_pos (by omega)]
    rw [show r - f = (r - 1 - f - 1) + 1 + 1 by omega]
    show lm_fls _ ((r - 1 - f - 1) + 1) (f + 1) (lm_flp S1 f (lm_b8 (lm_ms m f r v 6 f))) = _
    rw [lm_fls_add (r - 1 - f - 1) 1, e1, lm_fls_0 (r - 1 - f - 1) (f + 1) _ (fun i h1 h2 => by rw [e2 i (by omega) (by omega)]; decide), show f + 1 + (r - 1 - f - 1) = r - 1 by omega]
    show lm_flp (lm_flp S1 f _) (r - 1) (lm_b8 (lm_ms m f r v 6 (r - 1))) = _
    rw [e3]
    rw [lm_flp_c (f := r - 1) (v := lm_b8 (lm_b8 (lm_b8 (Int32.ofInt 0) ^^^ (Int32.ofInt (-128))))) (v1 := Int32.ofInt 128) (by decide)]
    rcases hv with hv | hv
    · subst hv; rw [lm_flp_c (S := S1) (f := f) (v := lm_b8 (lm_b8 (Int32.ofInt 6))) (v1 := Int32.ofInt 6) (by decide)]
    · subst hv; rw [lm_flp_c (S := S1) (f := f) (v := lm_b8 (lm_b8 (Int32.ofInt 31))) (v1 := Int32.ofInt 31) (by decide)]
theorem lm_u143 {q v a l : Nat} (hT : lm_Tok sc T) (hq : q < 5 ∨ 10 < q) (har : lm_ar q = some (1, v)) (hal : a + l ≤ v) (hv : v ≤ 70000) (hf : h.1 < r) (hC : lm_C5 m n k r h) (hx : m 5 10 = lm_sfx k) : ∃ m' n', lm_cal sc (d + 4) 143 [.ref 5, .ref q, .int (Int32.ofNat a), .int (Int32.ofNat l)] (lm_w m n x) = some (.ok none, lm_w (lm_fil m' q a (a + l) (fun i => lm_ok T.1 T.2.1 r (lm_hf T k r h).2.2.1 (i - a))) n' x) ∧ lm_fa 5 10 m n m' n' := by
  obtain ⟨c1, c2, c3, c4, c5, c6, c7⟩ := hC
  obtain ⟨zs, ys, t1, t2, t3, t4, t5, t6, t7⟩ := hT
  have er : r = 8 * (r / 8) := by omega
  have hsf : lm_sfx k = Int32.ofInt 6 ∨ lm_sfx k = Int32.ofInt 31 := by
    unfold lm_sfx
    by_cases c : k ≤ 10
    · rw [if_pos c]; exact Or.inl rfl
    · rw [if_neg c]; exact Or.inr rfl
  obtain ⟨n1, e1, f1, f2⟩ := lm_u206 (sc := sc) (d := d) (m := lm_ms m h.1 r (lm_sfx k)) (x := x) (n := n) (w := r / 8) t1 t2 (by rw [lm_ms_row (by decide)]; exact c5.trans (congrArg Int32.ofNat er)) (by omega)
  rw [← er, lm_ms_S hf hsf] at f1
  have hS : ∀ i, i < 25 → n1 8 i = (lm_hf T k r h).2.2.1 i := by
    intro i hi
    rw [f1]
    unfold lm_hf
    rw [if_pos c1]
    refine lm_kF_lo (fun i hi => (t5 i hi).symm) (fun t ht => (t6 t ht).symm) 24 0 _ _ (by decide) ?_ i hi
    exact lm_flp_lo (lm_flp_lo (fun i hi => (c7 i hi).symm))
  obtain ⟨n', e, f⟩ := lm_l143 (sc := sc) (d := d + 1) (m := lm_ms m h.1 r (lm_sfx k)) (x := x) (S := n1 8) (n0 := n) t1 t2 hq har hal hv c3 c4 (by rw [lm_ms_row (by decide)]; exact c5) l 0 n1 (by omega) rfl f2 (by omega)
  rw [Nat.zero_add, Nat.one_mul] at e
  have eo : ∀ (m1 : lm_MI) b, lm_fil m1 q a b (fun i => lm_ok lm_trt (fun t => zs.getD t 0) r (n1 8) (i - a)) = lm_fil m1 q a b (fun i => lm_ok T.1 T.2.1 r (lm_hf T k r h).2.2.1 (i - a)) := fun m1 b => lm_fl_ext (fun i _ _ => lm_ok_lo (fun i hi => (t5 i hi).symm) (fun t ht => (t6 t ht).symm) hS (by omega) (by omega) _)
  rw [eo, eo] at e
  refine ⟨lm_ms m h.1 r (lm_sfx k), n', ?_, ⟨fun p hp => lm_ms_row (by omega), fun p hp => f p (by omega) (by omega), fun i _ => by rw [lm_ms_row (by decide)], fun i _ => by rw [f 5 (by decide) (by decide)], lm_ms_row (by decide), lm_ms_row (by decide), f 10 (by decide) (by decide)⟩⟩
  refine lm_cal_of (Y := lm_m143) rfl rfl (lm_e143_0 ?_)
  unfold lm_q143_0
  repeat (first
    | ((with_reducible apply lm_sI); exact rfl)
    | ((with_reducible apply lm_sR); exact rfl)
    | ((with_reducible apply lm_sS); exact rfl; exact rfl)
    | ((with_reducible apply lm_sL); exact rfl)
    | ((with_reducible apply lm_sP); exact rfl; exact rfl)
    | ((with_reducible apply lm_sPL); exact rfl; exact rfl)
    | ((with_reducible apply lm_sAA); exact rfl; first | exact rfl | exact lm_roO (by omega) | exact lm_roM (by omega))
    | ((with_reducible apply lm_sI); exact lm_fpL (by omega))
    | ((with_reducible apply lm_sR); exact lm_fpB (by omega))
    | ((with_reducible apply lm_sP); exact lm_fpL (by omega); exact rfl)
    | ((with_reducible apply lm_sS); exact lm_ocO (by omega); exact rfl)
    | ((with_reducible apply lm_sA); exact rfl; omega)
    | ((with_reducible apply lm_sJ); exact rfl; omega)
    | ((with_reducible apply lm_sB); (first | exact rfl | exact lm_arB (by omega) | exact lm_arM (by omega)); omega)
    | ((with_reducible apply lm_wA); exact rfl; omega)
    | ((with_reducible apply lm_wJ); exact rfl; omega)
    | ((with_reducible apply lm_wB); (first | exact rfl | exact lm_arB (by omega) | exact lm_arM (by omega)); omega)
    | ((with_reducible apply lm_sAl); (first | exact rfl | exact lm_arB (by omega) | exact lm_arM (by omega)); omega)
    | ((with_reducible apply lm_iW); decide))
  simp only [Nat.reduceDiv, Nat.reduceMod, c6, hx]
  refine lm_wB rfl (by omega) ?_
  repeat (first
    | ((with_reducible apply lm_sI); exact rfl)
    | ((with_reducible apply lm_sR); exact rfl)
    | ((with_reducible apply lm_sS); exact rfl; exact rfl)
    | ((with_reducible apply lm_sL); exact rfl)
    | ((with_reducible apply lm_sP); exact rfl; exact rfl)
    | ((with_reducible apply lm_sPL); exact rfl; exact rfl)
    | ((with_reducible apply lm_sAA); exact rfl; first | exact rfl | exact lm_roO (by omega) | exact lm_roM (by omega))
    | ((with_reducible apply lm_sI); exact lm_fpL (by omega))
    | ((with_reducible apply lm_sR); exact lm_fpB (by omega))
    | ((with_reducible apply lm_sP); exact lm_fpL (by omega); exact rfl)
    | ((with_reducible apply lm_sS); exact lm_ocO (by omega); exact rfl)
    | ((with_reducible apply lm_sA); exact rfl; omega)
    | ((with_reducible apply lm_sJ); exact rfl; omega)
    | ((with_reducible apply lm_sB); (first | exact rfl | exact lm_arB (by omega) | exact lm_arM (by omega)); omega)
    | ((with_reducible apply lm_wA); exact rfl; omega)
    | ((with_reducible apply lm_wJ); exact rfl; omega)
    | ((with_reducible apply lm_wB); (first | exact rfl | exact lm_arB (by omega) | exact lm_arM (by omega)); omega)
    | ((with_reducible apply lm_sAl); (first | exact rfl | exact lm_arB (by omega) | exact lm_arM (by omega)); omega)
    | ((with_reducible apply lm_iW); decide))
  simp only [Nat.reduceDiv, Nat.reduceMod]
  rw [lm_u_row (by decide), c5, c6, show Int32.ofNat h.1 + Int32.ofInt 1 = Int32.ofNat (h.1 + 1) from lm_oa h.1 1]
  refine lm_cV (lm_u134 (d := d + 1) rfl (by omega) (by omega)) ?_
  repeat (first
    | ((with_reducible apply lm_sI); exact rfl)
    | ((with_reducible apply lm_sR); exact rfl)
    | ((with_reducible apply lm_sS); exact rfl; exact rfl)
    | ((with_reducible apply lm_sL); exact rfl)
    | ((with_reducible apply lm_sP); exact rfl; exact rfl)
    | ((with_reducible apply lm_sPL); exact rfl; exact rfl)
    | ((with_reducible apply lm_sAA); exact rfl; first | exact rfl | exact lm_roO (by omega) | exact lm_roM (by omega))
    | ((with_reducible apply lm_sI); exact lm_fpL (by omega))
    | ((with_reducible apply lm_sR); exact lm_fpB (by omega))
    | ((with_reducible apply lm_sP); exact lm_fpL (by omega); exact rfl)
    | ((with_reducible apply lm_sS); exact lm_ocO (by omega); exact rfl)
    | ((with_reducible apply lm_sA); exact rfl; omega)
    | ((with_reducible apply lm_sJ); exact rfl; omega)
    | ((with_reducible apply lm_sB); (first | exact rfl | exact lm_arB (by omega) | exact lm_arM (by omega)); omega)
    | ((with_reducible apply lm_wA); exact rfl; omega)
    | ((with_reducible apply lm_wJ); exact rfl; omega)
    | ((with_reducible apply lm_wB); (first | exact rfl | exact lm_arB (by omega) | exact lm_arM (by omega)); omega)
    | ((with_reducible apply lm_sAl); (first | exact rfl | exact lm_arB (by omega) | exact lm_arM (by omega)); omega)
    | ((with_reducible apply lm_iW); decide))
  simp only [Nat.reduceDiv, Nat.reduceMod]
  rw [lm_fl_row (by decide), lm_u_row (by decide), c5, show Int32.ofNat r - Int32.ofInt 1 = Int32.ofNat (r - 1) by rw [lm_K1, lm_osu (by omega)]]
  repeat (first
    | ((with_reducible apply lm_sI); exact rfl)
    | ((with_reducible apply lm_sR); exact rfl)
    | ((with_reducible apply lm_sS); exact rfl; exact rfl)
    | ((with_reducible apply lm_sL); exact rfl)
    | ((with_reducible apply lm_sP); exact rfl; exact rfl)
    | ((with_reducible apply lm_sPL); exact rfl; exact rfl)
    | ((with_reducible apply lm_sAA); exact rfl; first | exact rfl | exact lm_roO (by omega) | exact lm_roM (by omega))
    | ((with_reducible apply lm_sI); exact lm_fpL (by omega))
    | ((with_reducible apply lm_sR); exact lm_fpB (by omega))
    | ((with_reducible apply lm_sP); exact lm_fpL (by omega); exact rfl)
    | ((with_reducible apply lm_sS); exact lm_ocO (by omega); exact rfl)
    | ((with_reducible apply lm_sA); exact rfl; omega)
    | ((with_reducible apply lm_sJ); exact rfl; omega)
    | ((with_reducible apply lm_sB); (first | exact rfl | exact lm_arB (by omega) | exact lm_arM (by omega)); omega)
    | ((with_reducible apply lm_wA); exact rfl; omega)
    | ((with_reducible apply lm_wJ); exact rfl; omega)
    | ((with_reducible apply lm_wB); (first | exact rfl | exact lm_arB (by omega) | exact lm_arM (by omega)); omega)
    | ((with_reducible apply lm_sAl); (first | exact rfl | exact lm_arB (by omega) | exact lm_arM (by omega)); omega)
    | ((with_reducible apply lm_iW); decide))
  refine lm_cV e1 ?_
  repeat (first
    | ((with_reducible apply lm_sI); exact rfl)
    | ((with_reducible apply lm_sR); exact rfl)
    | ((with_reducible apply lm_sS); exact rfl; exact rfl)
    | ((with_reducible apply lm_sL); exact rfl)
    | ((with_reducible apply lm_sP); exact rfl; exact rfl)
    | ((with_reducible apply lm_sPL); exact rfl; exact rfl)
    | ((with_reducible apply lm_sAA); exact rfl; first | exact rfl | exact lm_roO (by omega) | exact lm_roM (by omega))
    | ((with_reducible apply lm_sI); exact lm_fpL (by omega))
    | ((with_reducible apply lm_sR); exact lm_fpB (by omega))
    | ((with_reducible apply lm_sP); exact lm_fpL (by omega); exact rfl)
    | ((with_reducible apply lm_sS); exact lm_ocO (by omega); exact rfl)
    | ((with_reducible apply lm_sA); exact rfl; omega)
    | ((with_reducible apply lm_sJ); exact rfl; omega)
    | ((with_reducible apply lm_sB); (first | exact rfl | exact lm_arB (by omega) | exact lm_arM (by omega)); omega)
    | ((with_reducible apply lm_wA); exact rfl; omega)
    | ((with_reducible apply lm_wJ); exact rfl; omega)
    | ((with_reducible apply lm_wB); (first | exact rfl | exact lm_arB (by omega) | exact lm_arM (by omega)); omega)
    | ((with_reducible apply lm_sAl); (first | exact rfl | exact lm_arB (by omega) | exact lm_arM (by omega)); omega)
    | ((with_reducible apply lm_iW); decide))
  simp only [Nat.reduceDiv, Nat.reduceMod]
  have e5 : lm_ms m h.1 r (lm_sfx k) 5 1 = Int32.ofNat r := by rw [lm_ms_row (by decide)]; exact c5
  rw [e5]
  refine lm_cI (lm_u205 (d := d + 2) (by omega) (by omega)) ?_
  repeat (first
    | ((with_reducible apply lm_sI); exact rfl)
    | ((with_reducible apply lm_sR); exact rfl)
    | ((with_reducible apply lm_sS); exact rfl; exact rfl)
    | ((with_reducible apply lm_sL); exact rfl)
    | ((with_reducible apply lm_sP); exact rfl; exact rfl)
    | ((with_reducible apply lm_sPL); exact rfl; exact rfl)
    | ((with_reducible apply lm_sAA); exact rfl; first | exact rfl | exact lm_roO (by omega) | exact lm_roM (by omega))
    | ((with_reducible apply lm_sI); exact lm_fpL (by omega))
    | ((with_reducible apply lm_sR); exact lm_fpB (by omega))
    | ((with_reducible apply lm_sP); exact lm_fpL (by omega); exact rfl)
    | ((with_reducible apply lm_sS); exact lm_ocO (by omega); exact rfl)
    | ((with_reducible apply lm_sA); exact rfl; omega)
    | ((with_reducible apply lm_sJ); exact rfl; omega)
    | ((with_reducible apply lm_sB); (first | exact rfl | exact lm_arB (by omega) | exact lm_arM (by omega)); omega)
    | ((with_reducible apply lm_wA); exact rfl; omega)
    | ((with_reducible apply lm_wJ); exact rfl; omega)
    | ((with_reducible apply lm_wB); (first | exact rfl | exact lm_arB (by omega) | exact lm_arM (by omega)); omega)
    | ((with_reducible apply lm_sAl); (first | exact rfl | exact lm_arB (by omega) | exact lm_arM (by omega)); omega)
    | ((with_reducible apply lm_iW); decide))
  refine lm_cV (lm_u211 (d := d + 2) har (by omega) hv (by omega)) ?_
  repeat (first
    | ((with_reducible apply lm_sI); exact rfl)
    | ((with_reducible apply lm_sR); exact rfl)
    | ((with_reducible apply lm_sS); exact rfl; exact rfl)
    | ((with_reducible apply lm_sL); exact rfl)
    | ((with_reducible apply lm_sP); exact rfl; exact rfl)
    | ((with_reducible apply lm_sPL); exact rfl; exact rfl)
    | ((with_reducible apply lm_sAA); exact rfl; first | exact rfl | exact lm_roO (by omega) | exact lm_roM (by omega))
    | ((with_reducible apply lm_sI); exact lm_fpL (by omega))
    | ((with_reducible apply lm_sR); exact lm_fpB (by omega))
    | ((with_reducible apply lm_sP); exact lm_fpL (by omega); exact rfl)
    | ((with_reducible apply lm_sS); exact lm_ocO (by omega); exact rfl)
    | ((with_reducible apply lm_sA); exact rfl; omega)
    | ((with_reducible apply lm_sJ); exact rfl; omega)
    | ((with_reducible apply lm_sB); (first | exact rfl | exact lm_arB (by omega) | exact lm_arM (by omega)); omega)
    | ((with_reducible apply lm_wA); exact rfl; omega)
    | ((with_reducible apply lm_wJ); exact rfl; omega)
    | ((with_reducible apply lm_wB); (first | exact rfl | exact lm_arB (by omega) | exact lm_arM (by omega)); omega)
    | ((with_reducible apply lm_sAl); (first | exact rfl | exact lm_arB (by omega) | exact lm_arM (by omega)); omega)
    | ((with_reducible apply lm_iW); decide))
  simp only [Nat.reduceDiv, Nat.reduceMod]
  rw [lm_fl_row (by omega), e5]
  rw [lm_fl_ext (g := fun i => lm_og (n1 8) (i - a)) (g' := fun i => lm_ok T.1 T.2.1 r (lm_hf T k r h).2.2.1 (i - a)) (fun i hi1 hi2 => by
    show lm_og (n1 8) _ = lm_og (lm_kN _ _ ((i - a) / r) _) ((i - a) % r)
    have e4 : i - a < r := by omega
    rw [Nat.div_eq_of_lt e4, Nat.mod_eq_of_lt e4]
    show _ = lm_og (lm_hf T k r h).2.2.1 (i - a)
    unfold lm_og
    rw [hS ((i - a) / 8) (by omega)])]
  exact e
end LMFS
