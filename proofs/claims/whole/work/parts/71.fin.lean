/-! ===== the reference's hashes: finish, put of bytes ===== -/
/-- bytes put one by one -/
def lm_hps (T : lm_TB) (k r : Nat) (g : Nat → Int32) : Nat → Nat → lm_HV → lm_HV
  | 0, _, h => h
  | j + 1, t, h => lm_hps T k r g j (t + 1) (lm_hp T k r (g t) h)
theorem lm_hp_lt {T : lm_TB} {k r : Nat} {v : Int32} {h : lm_HV} (hf : h.1 < r) : (lm_hp T k r v h).1 < r := by
  unfold lm_hp
  by_cases c : h.1 + 1 = r
  · rw [if_pos c]
    show 0 < r
    omega
  · rw [if_neg c]
    show h.1 + 1 < r
    omega
/-- zeros until c is reached: at most j -/
def lm_hz (T : lm_TB) (k r c : Nat) : Nat → lm_HV → lm_HV
  | 0, h => h
  | j + 1, h => if h.1 = c then h else lm_hz T k r c j (lm_hp T k r (Int32.ofInt 0) h)
/-- the bytes of the length, from the highest on -/
def lm_hl (T : lm_TB) (k r : Nat) (bits : Int64) : Nat → lm_HV → lm_HV
  | 0, h => h
  | i + 1, h => lm_hl T k r bits i (lm_hp T k r (if 8 ≤ i then Int32.ofInt 0 else Int64.toInt32 (lm_uL bits (Int32.ofNat (8 * i)))) h)
def lm_hf (T : lm_TB) (k r : Nat) (h : lm_HV) : lm_HV := if 6 < k then (0, h.2.1, lm_kF T.1 T.2.1 24 0 (lm_flp (lm_flp h.2.2.1 h.1 (if k ≤ 10 then Int32.ofInt 6 else Int32.ofInt 31)) (r - 1) (Int32.ofInt 128)), h.2.2.2) else lm_hl T k r ((Int64.ofNat 8) * h.2.1) (r / 8) (lm_hz T k r (r - r / 8) (2 * r) (lm_hp T k r (Int32.ofInt 128) h))
section LMFI
variable {sc : lm_H} {d k r : Nat} {m m0 : lm_MI} {n n0 : lm_ML} {x : lm_H × Nat × Nat}
theorem lm_l147l (hr : lm_kr k r) (hk : k ≤ 6) {bits : Int64} : ∀ i (m : lm_MI) (n : lm_ML) (h : lm_HV), i ≤ 16 → h.1 < r → lm_HS m n k r h → lm_fh m0 n0 m n → lm_RH x m0 n0 k r (lm_hl (lm_tb m0 n0) k r bits i h) none (lm_rn sc (d + 3) lm_m147.2.2.2.2.1 (lm_reg lm_m147.2.2.2.2.2) (107, [(0, .ref 203), (1, .long bits), (3, .int (Int32.ofInt ((i : Int) - 1)))], []) (lm_w m n x)) := by
  intro i
  induction i with
  | zero =>
    intro m n h _ hf hS hfr
    refine ⟨m, n, ?_, hS, hfr⟩
    refine lm_e147_107 ?_
    unfold lm_q147_107
    exact lm_iT (show Int32.ofInt (-1) < 0 by decide) rfl
  | succ i ih =>
    intro m n h hi hf hS hfr
    have eb : Int32.ofInt (((i + 1 : Nat) : Int) - 1) = Int32.ofNat i := by
      rw [show (((i + 1 : Nat) : Int) - 1) = (i : Int) by omega, lm_ofI]
    have e2 : Int32.ofNat i + Int32.ofInt (-1) = Int32.ofInt ((i : Int) - 1) := by
      rw [← lm_ofI, ← Int32.ofInt_add]
      rfl
    obtain ⟨m1, n1, c1, s1, f1⟩ := lm_u69 (sc := sc) (d := d) (x := x) (v := if 8 ≤ i then Int32.ofInt 0 else Int64.toInt32 (lm_uL bits (Int32.ofNat (8 * i)))) hr hf hS
    rw [hfr.tb] at s1
    obtain ⟨m2, n2, c2, s2, f2⟩ := ih m1 n1 _ (by omega) (lm_hp_lt hf) s1 (hfr.tr f1)
    refine ⟨m2, n2, ?_, s2, f2⟩
    refine lm_e147_107 ?_
    unfold lm_q147_107
    rw [eb]
    refine lm_iF (show ¬ Int32.ofNat i < 0 from (lm_nn (by omega)).1) ?_
    rw [lm_K8, lm_om]
    by_cases c : 8 ≤ i
    · rw [if_pos c] at c1
      refine lm_geT (by omega) (by omega) c ?_
      refine lm_e147_129 ?_
      unfold lm_q147_129
      repeat (first
    | ((with_reducible apply lm_sI); exact rfl)
    | ((with_reducible apply lm_sR); exact rfl)
    | ((with_reducible apply lm_sS); exact rfl; exact rfl)
    | ((with_reducible apply lm_sL); exact rfl)
    | ((with_reducible apply lm_sP); exact rfl; exact rfl)
    | ((with_reducible apply lm_sPL); exact rfl; exact rfl)
    | ((with_reducible apply lm_sAA); exact rfl; first | exact rfl | exact lm_roO (by omega) | exact lm_roM (by omega))
    | ((with_reducible apply lm_sI); exact lm_fpL (by omega))
    | ((with_reducible apply lm_sR); exact lm_fpB (by omega))
    | ((with_reducible apply lm_sP); exact lm_fpL (by omega); exact rfl)
    | ((with_reducible apply lm_sS); exact lm_ocO (by omega); exact rfl)
    | ((with_reducible apply lm_sA); exact rfl; omega)
    | ((with_reducible apply lm_sJ); exact rfl; omega)
    | ((with_reducible apply lm_sB); (first | exact rfl | exact lm_arB (by omega) | exact lm_arM (by omega)); omega)
    | ((with_reducible apply lm_wA); exact rfl; omega)
    | ((with_reducible apply lm_wJ); exact rfl; omega)
    | ((with_reducible apply lm_wB); (first | exact rfl | exact lm_arB (by omega) | exact lm_arM (by omega)); omega)
    | ((with_reducible apply lm_sAl); (first | exact rfl | exact lm_arB (by omega) | exact lm_arM (by omega)); omega)
    | ((with_reducible apply lm_iW); decide))
      refine lm_cV c1 ?_
      rw [e2]
      exact c2
    · rw [if_neg c] at c1
      refine lm_geF (by omega) (by omega) c ?_
      refine lm_e147_129 ?_
      unfold lm_q147_129
      repeat (first
    | ((with_reducible apply lm_sI); exact rfl)
    | ((with_reducible apply lm_sR); exact rfl)
    | ((with_reducible apply lm_sS); exact rfl; exact rfl)
    | ((with_reducible apply lm_sL); exact rfl)
    | ((with_reducible apply lm_sP); exact rfl; exact rfl)
    | ((with_reducible apply lm_sPL); exact rfl; exact rfl)
    | ((with_reducible apply lm_sAA); exact rfl; first | exact rfl | exact lm_roO (by omega) | exact lm_roM (by omega))
    | ((with_reducible apply lm_sI); exact lm_fpL (by omega))
    | ((with_reducible apply lm_sR); exact lm_fpB (by omega))
    | ((with_reducible apply lm_sP); exact lm_fpL (by omega); exact rfl)
    | ((with_reducible apply lm_sS); exact lm_ocO (by omega); exact rfl)
    | ((with_reducible apply lm_sA); exact rfl; omega)
    | ((with_reducible apply lm_sJ); exact rfl; omega)
    | ((with_reducible apply lm_sB); (first | exact rfl | exact lm_arB (by omega) | exact lm_arM (by omega)); omega)
    | ((with_reducible apply lm_wA); exact rfl; omega)
    | ((with_reducible apply lm_wJ); exact rfl; omega)
    | ((with_reducible apply lm_wB); (first | exact rfl | exact lm_arB (by omega) | exact lm_arM (by omega)); omega)
    | ((with_reducible apply lm_sAl); (first | exact rfl | exact lm_arB (by omega) | exact lm_arM (by omega)); omega)
    | ((with_reducible apply lm_iW); decide))
      refine lm_cV c1 ?_
      rw [e2]
      exact c2
theorem lm_l147z (hr : lm_kr k r) (hk : k ≤ 6) {bits : Int64} : ∀ j (m : lm_MI) (n : lm_ML) (h : lm_HV), h.1 < r → (if h.1 ≤ r - r / 8 then r - r / 8 - h.1 else r - h.1 + (r - r / 8)) < j → lm_HS m n k r h → lm_fh m0 n0 m n → lm_RH x m0 n0 k r (lm_hl (lm_tb m0 n0) k r bits (r / 8) (lm_hz (lm_tb m0 n0) k r (r - r / 8) j h)) none (lm_rn sc (d + 3) lm_m147.2.2.2.2.1 (lm_reg lm_m147.2.2.2.2.2) (70, [(0, .ref 203), (1, .long bits)], []) (lm_w m n x)) := by
  have hr6 := hr.2.2 hk
  intro j
  induction j with
  | zero => intro m n h _ hj; omega
  | succ j ih =>
    intro m n h hf hj hS hfr
    obtain ⟨h1, h2, h3, h4, h5, h6⟩ := hS
    unfold lm_hz
    by_cases c : h.1 = r - r / 8
    · rw [if_pos c]
      obtain ⟨m2, n2, c2, s2, f2⟩ := lm_l147l (sc := sc) (d := d) (m0 := m0) (n0 := n0) (x := x) (bits := bits) hr hk (r / 8) m n h (by omega) hf ⟨h1, h2, h3, h4, h5, h6⟩ hfr
      refine ⟨m2, n2, ?_, s2, f2⟩
      refine lm_e147_70 ?_
      unfold lm_q147_70
      repeat (first
    | ((with_reducible apply lm_sI); exact rfl)
    | ((with_reducible apply lm_sR); exact rfl)
    | ((with_reducible apply lm_sS); exact rfl; exact rfl)
    | ((with_reducible apply lm_sL); exact rfl)
    | ((with_reducible apply lm_sP); exact rfl; exact rfl)
    | ((with_reducible apply lm_sPL); exact rfl; exact rfl)
    | ((with_reducible apply lm_sAA); exact rfl; first | exact rfl | exact lm_roO (by omega) | exact lm_roM (by omega))
    | ((with_reducible apply lm_sI); exact lm_fpL (by omega))
    | ((with_reducible apply lm_sR); exact lm_fpB (by omega))
    | ((with_reducible apply lm_sP); exact lm_fpL (by omega); exact rfl)
    | ((with_reducible apply lm_sS); exact lm_ocO (by omega); exact rfl)
    | ((with_reducible apply lm_sA); exact rfl; omega)
    | ((with_reducible apply lm_sJ); exact rfl; omega)
    | ((with_reducible apply lm_sB); (first | exact rfl | exact lm_arB (by omega) | exact lm_arM (by omega)); omega)
    | ((with_reducible apply lm_wA); exact rfl; omega)
    | ((with_reducible apply lm_wJ); exact rfl; omega)
    | ((with_reducible apply lm_wB); (first | exact rfl | exact lm_arB (by omega) | exact lm_arM (by omega)); omega)
    | ((with_reducible apply lm_sAl); (first | exact rfl | exact lm_arB (by omega) | exact lm_arM (by omega)); omega)
    | ((with_reducible apply lm_iW); decide))
      simp only [Nat.reduceDiv, Nat.reduceMod, h2, h3, lm_K8]
      rw [lm_od (by omega) (by omega), lm_osu (by omega)]
      refine lm_eqT (by omega) (by omega) c ?_
      repeat (first
    | ((with_reducible apply lm_sI); exact rfl)
    | ((with_reducible apply lm_sR); exact rfl)
    | ((with_reducible apply lm_sS); exact rfl; exact rfl)
    | ((with_reducible apply lm_sL); exact rfl)
    | ((with_reducible apply lm_sP); exact rfl; exact rfl)
    | ((with_reducible apply lm_sPL); exact rfl; exact rfl)
    | ((with_reducible apply lm_sAA); exact rfl; first | exact rfl | exact lm_roO (by omega) | exact lm_roM (by omega))
    | ((with_reducible apply lm_sI); exact lm_fpL (by omega))
    | ((with_reducible apply lm_sR); exact lm_fpB (by omega))
    | ((with_reducible apply lm_sP); exact lm_fpL (by omega); exact rfl)
    | ((with_reducible apply lm_sS); exact lm_ocO (by omega); exact rfl)
    | ((with_reducible apply lm_sA); exact rfl; omega)
    | ((with_reducible apply lm_sJ); exact rfl; omega)
    | ((with_reducible apply lm_sB); (first | exact rfl | exact lm_arB (by omega) | exact lm_arM (by omega)); omega)
    | ((with_reducible apply lm_wA); exact rfl; omega)
    | ((with_reducible apply lm_wJ); exact rfl; omega)
    | ((with_reducible apply lm_wB); (first | exact rfl | exact lm_arB (by omega) | exact lm_arM (by omega)); omega)
    | ((with_reducible apply lm_sAl); (first | exact rfl | exact lm_arB (by omega) | exact lm_arM (by omega)); omega)
    | ((with_reducible apply lm_iW); decide))
      simp only [Nat.reduceDiv, Nat.reduceMod, h2]
      rw [lm_od (by omega) (by omega), show Int32.ofNat (r / 8) - Int32.ofInt 1 = Int32.ofInt (((r / 8 : Nat) : Int) - 1) by rw [← lm_ofI, ← Int32.ofInt_sub]]
      exact c2
    · rw [if_neg c]
      obtain ⟨m1, n1, c1, s1, f1⟩ := lm_u69 (sc := sc) (d := d) (x := x) (v := Int32.ofInt 0) hr hf ⟨h1, h2, h3, h4, h5, h6⟩
      rw [hfr.tb] at s1
      have hm : (if (lm_hp (lm_tb m0 n0) k r (Int32.ofInt 0) h).1 ≤ r - r / 8 then r - r / 8 - (lm_hp (lm_tb m0 n0) k r (Int32.ofInt 0) h).1 else r - (lm_hp (lm_tb m0 n0) k r (Int32.ofInt 0) h).1 + (r - r / 8)) < j := by
        have e1 : (lm_hp (lm_tb m0 n0) k r (Int32.ofInt 0) h).1 = if h.1 + 1 = r then 0 else h.1 + 1 := by
          unfold lm_hp
          by_cases g : h.1 + 1 = r
          · rw [if_pos g, if_pos g]
          · rw [if_neg g, if_neg g]
        rw [e1]
        split at hj <;> split <;> (split <;> omega)
      obtain ⟨m2, n2, c2, s2, f2⟩ := ih m1 n1 _ (lm_hp_lt hf) hm s1 (hfr.tr f1)
      refine ⟨m2, n2, ?_, s2, f2⟩
      refine lm_e147_70 ?_
      unfold lm_q147_70
      repeat (first
    | ((with_reducible apply lm_sI); exact rfl)
    | ((with_reducible apply lm_sR); exact rfl)
    | ((with_reducible apply lm_sS); exact rfl; exact rfl)
    | ((with_reducible apply lm_sL); exact rfl)
    | ((with_reducible apply lm_sP); exact rfl; exact rfl)
    | ((with_reducible apply lm_sPL); exact rfl; exact rfl)
    | ((with_reducible apply lm_sAA); exact rfl; first | exact rfl | exact lm_roO (by omega) | exact lm_roM (by omega))
    | ((with_reducible apply lm_sI); exact lm_fpL (by omega))
    | ((with_reducible apply lm_sR); exact lm_fpB (by omega))
    | ((with_reducible apply lm_sP); exact lm_fpL (by omega); exact rfl)
    | ((with_reducible apply lm_sS); exact lm_ocO (by omega); exact rfl)
    | ((with_reducible apply lm_sA); exact rfl; omega)
    | ((with_reducible apply lm_sJ); exact rfl; omega)
    | ((with_reducible apply lm_sB); (first | exact rfl | exact lm_arB (by omega) | exact lm_arM (by omega)); omega)
    | ((with_reducible apply lm_wA); exact rfl; omega)
    | ((with_reducible apply lm_wJ); exact rfl; omega)
    | ((with_reducible apply lm_wB); (first | exact rfl | exact lm_arB (by omega) | exact lm_arM (by omega)); omega)
    | ((with_reducible apply lm_sAl); (first | exact rfl | exact lm_arB (by omega) | exact lm_arM (by omega)); omega)
    | ((with_reducible apply lm_iW); decide))
      simp only [Nat.reduceDiv, Nat.reduceMod, h2, h3, lm_K8]
      rw [lm_od (by omega) (by omega), lm_osu (by omega)]
      refine lm_eqF (by omega) (by omega) c ?_
      repeat (first
    | ((with_reducible apply lm_sI); exact rfl)
    | ((with_reducible apply lm_sR); exact rfl)
    | ((with_reducible apply lm_sS); exact rfl; exact rfl)
    | ((with_reducible apply lm_sL); exact rfl)
    | ((with_reducible apply lm_sP); exact rfl; exact rfl)
    | ((with_reducible apply lm_sPL); exact rfl; exact rfl)
    | ((with_reducible apply lm_sAA); exact rfl; first | exact rfl | exact lm_roO (by omega) | exact lm_roM (by omega))
    | ((with_reducible apply lm_sI); exact lm_fpL (by omega))
    | ((with_reducible apply lm_sR); exact lm_fpB (by omega))
    | ((with_reducible apply lm_sP); exact lm_fpL (by omega); exact rfl)
    | ((with_reducible apply lm_sS); exact lm_ocO (by omega); exact rfl)
    | ((with_reducible apply lm_sA); exact rfl; omega)
    | ((with_reducible apply lm_sJ); exact rfl; omega)
    | ((with_reducible apply lm_sB); (first | exact rfl | exact lm_arB (by omega) | exact lm_arM (by omega)); omega)
    | ((with_reducible apply lm_wA); exact rfl; omega)
    | ((with_reducible apply lm_wJ); exact rfl; omega)
    | ((with_reducible apply lm_wB); (first | exact rfl | exact lm_arB (by omega) | exact lm_arM (by omega)); omega)
    | ((with_reducible apply lm_sAl); (first | exact rfl | exact lm_arB (by omega) | exact lm_arM (by omega)); omega)
    | ((with_reducible apply lm_iW); decide))
      refine lm_cV c1 ?_
      exact c2
/-- finish -/
theorem lm_u147 {h : lm_HV} (hr : lm_kr k r) (hrp : 64 ≤ r) (hf : h.1 < r) (hS : lm_HS m n k r h) : lm_RH x m n k r (lm_hf (lm_tb m n) k r h) none (lm_cal sc (d + 4) 147 [.ref 203] (lm_w m n x)) := by
  obtain ⟨h1, h2, h3, h4, h5, h6⟩ := hS
  obtain ⟨r1, r2, r3⟩ := hr
  unfold lm_hf
  by_cases ck : 6 < k
  · rw [if_pos ck]
    have e2 : ∀ v1 v2 : Int32, lm_u (lm_u n 223 (h.1 / 8) (n 223 (h.1 / 8) ^^^ (((Int32.toInt64 v1) &&& (Int64.ofNat 255)) <<< ((Int32.toInt64 (Int32.ofNat (8 * (h.1 % 8)))) &&& 63)))) 223 ((r - 1) / 8) (lm_u n 223 (h.1 / 8) (n 223 (h.1 / 8) ^^^ (((Int32.toInt64 v1) &&& (Int64.ofNat 255)) <<< ((Int32.toInt64 (Int32.ofNat (8 * (h.1 % 8)))) &&& 63))) 223 ((r - 1) / 8) ^^^ (((Int32.toInt64 v2) &&& (Int64.ofNat 255)) <<< ((Int32.toInt64 (Int32.ofNat (8 * ((r - 1) % 8)))) &&& 63))) 223 = lm_flp (lm_flp h.2.2.1 h.1 v1) (r - 1) v2 := fun v1 v2 => by
      rw [lm_flp_u (n := lm_u n 223 (h.1 / 8) (n 223 (h.1 / 8) ^^^ (((Int32.toInt64 v1) &&& (Int64.ofNat 255)) <<< ((Int32.toInt64 (Int32.ofNat (8 * (h.1 % 8)))) &&& 63)))) (f := r - 1), lm_flp_u, h5]
    have main : ∀ v1 : Int32, (if k ≤ 10 then Int32.ofInt 6 else Int32.ofInt 31) = v1 → ∃ m' n', lm_rn sc (d + 3) lm_m147.2.2.2.2.1 (lm_reg lm_m147.2.2.2.2.2) (28, [(0, .ref 203)], [.int v1, .int (Int32.ofNat h.1), .ref 203]) (lm_w m n x) = some (.ok none, lm_w m' n' x) ∧ lm_HS m' n' k r (0, h.2.1, lm_kF (lm_tb m n).1 (lm_tb m n).2.1 24 0 (lm_flp (lm_flp h.2.2.1 h.1 v1) (r - 1) (Int32.ofInt 128)), h.2.2.2) ∧ lm_fh m n m' n' := by
      intro v1 _
      obtain ⟨n3, e, g1, g2⟩ := lm_u154 (sc := sc) (d := d + 1) (m := m) (x := x) (n := lm_u (lm_u n 223 (h.1 / 8) (n 223 (h.1 / 8) ^^^ (((Int32.toInt64 v1) &&& (Int64.ofNat 255)) <<< ((Int32.toInt64 (Int32.ofNat (8 * (h.1 % 8)))) &&& 63)))) 223 ((r - 1) / 8) (lm_u n 223 (h.1 / 8) (n 223 (h.1 / 8) ^^^ (((Int32.toInt64 v1) &&& (Int64.ofNat 255)) <<< ((Int32.toInt64 (Int32.ofNat (8 * (h.1 % 8)))) &&& 63))) 223 ((r - 1) / 8) ^^^ (((Int32.toInt64 (Int32.ofInt 128)) &&& (Int64.ofNat 255)) <<< ((Int32.toInt64 (Int32.ofNat (8 * ((r - 1) % 8)))) &&& 63))))
      rw [e2, lm_u_row (by decide), lm_u_row (by decide)] at g1
      refine ⟨lm_u m 203 20 (Int32.ofInt 0), n3, ?_, ⟨?_, ?_, lm_u_eq, ?_, g1, ?_⟩, ?_, ?_, ?_⟩
      · refine lm_e147_28 ?_
        unfold lm_q147_28
        repeat (first
    | ((with_reducible apply lm_sI); exact rfl)
    | ((with_reducible apply lm_sR); exact rfl)
    | ((with_reducible apply lm_sS); exact rfl; exact rfl)
    | ((with_reducible apply lm_sL); exact rfl)
    | ((with_reducible apply lm_sP); exact rfl; exact rfl)
    | ((with_reducible apply lm_sPL); exact rfl; exact rfl)
    | ((with_reducible apply lm_sAA); exact rfl; first | exact rfl | exact lm_roO (by omega) | exact lm_roM (by omega))
    | ((with_reducible apply lm_sI); exact lm_fpL (by omega))
    | ((with_reducible apply lm_sR); exact lm_fpB (by omega))
    | ((with_reducible apply lm_sP); exact lm_fpL (by omega); exact rfl)
    | ((with_reducible apply lm_sS); exact lm_ocO (by omega); exact rfl)
    | ((with_reducible apply lm_sA); exact rfl; omega)
    | ((with_reducible apply lm_sJ); exact rfl; omega)
    | ((with_reducible apply lm_sB); (first | exact rfl | exact lm_arB (by omega) | exact lm_arM (by omega)); omega)
    | ((with_reducible apply lm_wA); exact rfl; omega)
    | ((with_reducible apply lm_wJ); exact rfl; omega)
    | ((with_reducible apply lm_wB); (first | exact rfl | exact lm_arB (by omega) | exact lm_arM (by omega)); omega)
    | ((with_reducible apply lm_sAl); (first | exact rfl | exact lm_arB (by omega) | exact lm_arM (by omega)); omega)
    | ((with_reducible apply lm_iW); decide))
        refine lm_cV (lm_u153 (d := d + 2) (by omega)) ?_
        repeat (first
    | ((with_reducible apply lm_sI); exact rfl)
    | ((with_reducible apply lm_sR); exact rfl)
    | ((with_reducible apply lm_sS); exact rfl; exact rfl)
    | ((with_reducible apply lm_sL); exact rfl)
    | ((with_reducible apply lm_sP); exact rfl; exact rfl)
    | ((with_reducible apply lm_sPL); exact rfl; exact rfl)
    | ((with_reducible apply lm_sAA); exact rfl; first | exact rfl | exact lm_roO (by omega) | exact lm_roM (by omega))
    | ((with_reducible apply lm_sI); exact lm_fpL (by omega))
    | ((with_reducible apply lm_sR); exact lm_fpB (by omega))
    | ((with_reducible apply lm_sP); exact lm_fpL (by omega); exact rfl)
    | ((with_reducible apply lm_sS); exact lm_ocO (by omega); exact rfl)
    | ((with_reducible apply lm_sA); exact rfl; omega)
    | ((with_reducible apply lm_sJ); exact rfl; omega)
    | ((with_reducible apply lm_sB); (first | exact rfl | exact lm_arB (by omega) | exact lm_arM (by omega)); omega)
    | ((with_reducible apply lm_wA); exact rfl; omega)
    | ((with_reducible apply lm_wJ); exact rfl; omega)
    | ((with_reducible apply lm_wB); (first | exact rfl | exact lm_arB (by omega) | exact lm_arM (by omega)); omega)
    | ((with_reducible apply lm_sAl); (first | exact rfl | exact lm_arB (by omega) | exact lm_arM (by omega)); omega)
    | ((with_reducible apply lm_iW); decide))
        simp only [Nat.reduceDiv, Nat.reduceMod, h2]
        rw [show Int32.ofNat r - Int32.ofInt 1 = Int32.ofNat (r - 1) by rw [lm_K1, lm_osu (by omega)]]
        refine lm_cV (lm_u153 (d := d + 2) (by omega)) ?_
        repeat (first
    | ((with_reducible apply lm_sI); exact rfl)
    | ((with_reducible apply lm_sR); exact rfl)
    | ((with_reducible apply lm_sS); exact rfl; exact rfl)
    | ((with_reducible apply lm_sL); exact rfl)
    | ((with_reducible apply lm_sP); exact rfl; exact rfl)
    | ((with_reducible apply lm_sPL); exact rfl; exact rfl)
    | ((with_reducible apply lm_sAA); exact rfl; first | exact rfl | exact lm_roO (by omega) | exact lm_roM (by omega))
    | ((with_reducible apply lm_sI); exact lm_fpL (by omega))
    | ((with_reducible apply lm_sR); exact lm_fpB (by omega))
    | ((with_reducible apply lm_sP); exact lm_fpL (by omega); exact rfl)
    | ((with_reducible apply lm_sS); exact lm_ocO (by omega); exact rfl)
    | ((with_reducible apply lm_sA); exact rfl; omega)
    | ((with_reducible apply lm_sJ); exact rfl; omega)
    | ((with_reducible apply lm_sB); (first | exact rfl | exact lm_arB (by omega) | exact lm_arM (by omega)); omega)
    | ((with_reducible apply lm_wA); exact rfl; omega)
    | ((with_reducible apply lm_wJ); exact rfl; omega)
    | ((with_reducible apply lm_wB); (first | exact rfl | exact lm_arB (by omega) | exact lm_arM (by omega)); omega)
    | ((with_reducible apply lm_sAl); (first | exact rfl | exact lm_arB (by omega) | exact lm_arM (by omega)); omega)
    | ((with_reducible apply lm_iW); decide))
        refine lm_cV e ?_
        repeat (first
    | ((with_reducible apply lm_sI); exact rfl)
    | ((with_reducible apply lm_sR); exact rfl)
    | ((with_reducible apply lm_sS); exact rfl; exact rfl)
    | ((with_reducible apply lm_sL); exact rfl)
    | ((with_reducible apply lm_sP); exact rfl; exact rfl)
    | ((with_reducible apply lm_sPL); exact rfl; exact rfl)
    | ((with_reducible apply lm_sAA); exact rfl; first | exact rfl | exact lm_roO (by omega) | exact lm_roM (by omega))
    | ((with_reducible apply lm_sI); exact lm_fpL (by omega))
    | ((with_reducible apply lm_sR); exact lm_fpB (by omega))
    | ((with_reducible apply lm_sP); exact lm_fpL (by omega); exact rfl)
    | ((with_reducible apply lm_sS); exact lm_ocO (by omega); exact rfl)
    | ((with_reducible apply lm_sA); exact rfl; omega)
    | ((with_reducible apply lm_sJ); exact rfl; omega)
    | ((with_reducible apply lm_sB); (first | exact rfl | exact lm_arB (by omega) | exact lm_arM (by omega)); omega)
    | ((with_reducible apply lm_wA); exact rfl; omega)
    | ((with_reducible apply lm_wJ); exact rfl; omega)
    | ((with_reducible apply lm_wB); (first | exact rfl | exact lm_arB (by omega) | exact lm_arM (by omega)); omega)
    | ((with_reducible apply lm_sAl); (first | exact rfl | exact lm_arB (by omega) | exact lm_arM (by omega)); omega)
    | ((with_reducible apply lm_iW); decide))
        exact rfl
      · rw [lm_u_ne (by decide)]; exact h1
      · rw [lm_u_ne (by decide)]; exact h2
      · rw [g2 203 (by decide) (by decide) (by decide), lm_u_row (by decide), lm_u_row (by decide)]; exact h4
      · rw [lm_u_row (by decide)]; exact h6
      · intro q a b; exact lm_u_row a
      · intro j a b c; exact lm_u_ne (fun g => c g.2)
      · intro q a b c d e
        rw [g2 q b c d, lm_u_row b, lm_u_row b]
    obtain ⟨m', n', e, s, f⟩ := main _ rfl
    refine ⟨m', n', ?_, s, f⟩
    refine lm_cal_of (Y := lm_m147) rfl rfl (lm_e147_0 ?_)
    unfold lm_q147_0
    repeat (first
    | ((with_reducible apply lm_sI); exact rfl)
    | ((with_reducible apply lm_sR); exact rfl)
    | ((with_reducible apply lm_sS); exact rfl; exact rfl)
    | ((with_reducible apply lm_sL); exact rfl)
    | ((with_reducible apply lm_sP); exact rfl; exact rfl)
    | ((with_reducible apply lm_sPL); exact rfl; exact rfl)
    | ((with_reducible apply lm_sAA); exact rfl; first | exact rfl | exact lm_roO (by omega) | exact lm_roM (by omega))
    | ((with_reducible apply lm_sI); exact lm_fpL (by omega))
    | ((with_reducible apply lm_sR); exact lm_fpB (by omega))
    | ((with_reducible apply lm_sP); exact lm_fpL (by omega); exact rfl)
    | ((with_reducible apply lm_sS); exact lm_ocO (by omega); exact rfl)
    | ((with_reducible apply lm_sA); exact rfl; omega)
    | ((with_reducible apply lm_sJ); exact rfl; omega)
    | ((with_reducible apply lm_sB); (first | exact rfl | exact lm_arB (by omega) | exact lm_arM (by omega)); omega)
    | ((with_reducible apply lm_wA); exact rfl; omega)
    | ((with_reducible apply lm_wJ); exact rfl; omega)
    | ((with_reducible apply lm_wB); (first | exact rfl | exact lm_arB (by omega) | exact lm_arM (by omega)); omega)
    | ((with_reducible apply lm_sAl); (first | exact rfl | exact lm_arB (by omega) | exact lm_arM (by omega)); omega)
    | ((with_reducible apply lm_iW); decide))
    refine lm_cI (lm_u148 (d := d + 2) h1 r1) ?_
    rw [decide_eq_true ck]
    refine lm_iF (show ¬ (1 : Int32) = 0 by decide) ?_
    repeat (first
    | ((with_reducible apply lm_sI); exact rfl)
    | ((with_reducible apply lm_sR); exact rfl)
    | ((with_reducible apply lm_sS); exact rfl; exact rfl)
    | ((with_reducible apply lm_sL); exact rfl)
    | ((with_reducible apply lm_sP); exact rfl; exact rfl)
    | ((with_reducible apply lm_sPL); exact rfl; exact rfl)
    | ((with_reducible apply lm_sAA); exact rfl; first | exact rfl | exact lm_roO (by omega) | exact lm_roM (by omega))
    | ((with_reducible apply lm_sI); exact lm_fpL (by omega))
    | ((with_reducible apply lm_sR); exact lm_fpB (by omega))
    | ((with_reducible apply lm_sP); exact lm_fpL (by omega); exact rfl)
    | ((with_reducible apply lm_sS); exact lm_ocO (by omega); exact rfl)
    | ((with_reducible apply lm_sA); exact rfl; omega)
    | ((with_reducible apply lm_sJ); exact rfl; omega)
    | ((with_reducible apply lm_sB); (first | exact rfl | exact lm_arB (by omega) | exact lm_arM (by omega)); omega)
    | ((with_reducible apply lm_wA); exact rfl; omega)
    | ((with_reducible apply lm_wJ); exact rfl; omega)
    | ((with_reducible apply lm_wB); (first | exact rfl | exact lm_arB (by omega) | exact lm_arM (by omega)); omega)
    | ((with_reducible apply lm_sAl); (first | exact rfl | exact lm_arB (by omega) | exact lm_arM (by omega)); omega)
    | ((with_reducible apply lm_iW); decide))
    simp only [Nat.reduceDiv, Nat.reduceMod, h1, h3, lm_K10]
    by_cases c : k ≤ 10
    · rw [if_pos c] at e
      exact lm_leT (by omega) (by omega) c e
    · rw [if_neg c] at e
      exact lm_leF (by omega) (by omega) c e
  · rw [if_neg ck]
    have hr6 := r3 (by omega)
    obtain ⟨m1, n1, c1, s1, f1⟩ := lm_u69 (sc := sc) (d := d) (x := x) (v := Int32.ofInt 128) ⟨r1, r2, r3⟩ hf ⟨h1, h2, h3, h4, h5, h6⟩
    have hlt := lm_hp_lt (T := lm_tb m n) (k := k) (v := Int32.ofInt 128) hf
    obtain ⟨m2, n2, c2, s2, f2⟩ := lm_l147z (sc := sc) (d := d) (m0 := m) (n0 := n) (x := x) (bits := (Int64.ofNat 8) * h.2.1) ⟨r1, r2, r3⟩ (by omega) (2 * r) m1 n1 _ hlt (by split <;> omega) s1 f1
    refine ⟨m2, n2, ?_, s2, f2⟩
    refine lm_cal_of (Y := lm_m147) rfl rfl (lm_e147_0 ?_)
    unfold lm_q147_0
    repeat (first
    | ((with_reducible apply lm_sI); exact rfl)
    | ((with_reducible apply lm_sR); exact rfl)
    | ((with_reducible apply lm_sS); exact rfl; exact rfl)
    | ((with_reducible apply lm_sL); exact rfl)
    | ((with_reducible apply lm_sP); exact rfl; exact rfl)
    | ((with_reducible apply lm_sPL); exact rfl; exact rfl)
    | ((with_reducible apply lm_sAA); exact rfl; first | exact rfl | exact lm_roO (by omega) | exact lm_roM (by omega))
    | ((with_reducible apply lm_sI); exact lm_fpL (by omega))
    | ((with_reducible apply lm_sR); exact lm_fpB (by omega))
    | ((with_reducible apply lm_sP); exact lm_fpL (by omega); exact rfl)
    | ((with_reducible apply lm_sS); exact lm_ocO (by omega); exact rfl)
    | ((with_reducible apply lm_sA); exact rfl; omega)
    | ((with_reducible apply lm_sJ); exact rfl; omega)
    | ((with_reducible apply lm_sB); (first | exact rfl | exact lm_arB (by omega) | exact lm_arM (by omega)); omega)
    | ((with_reducible apply lm_wA); exact rfl; omega)
    | ((with_reducible apply lm_wJ); exact rfl; omega)
    | ((with_reducible apply lm_wB); (first | exact rfl | exact lm_arB (by omega) | exact lm_arM (by omega)); omega)
    | ((with_reducible apply lm_sAl); (first | exact rfl | exact lm_arB (by omega) | exact lm_arM (by omega)); omega)
    | ((with_reducible apply lm_iW); decide))
    refine lm_cI (lm_u148 (d := d + 2) h1 r1) ?_
    rw [decide_eq_false ck]
    refine lm_iT (show (0 : Int32) = 0 by decide) ?_
    repeat (first
    | ((with_reducible apply lm_sI); exact rfl)
    | ((with_reducible apply lm_sR); exact rfl)
    | ((with_reducible apply lm_sS); exact rfl; exact rfl)
    | ((with_reducible apply lm_sL); exact rfl)
    | ((with_reducible apply lm_sP); exact rfl; exact rfl)
    | ((with_reducible apply lm_sPL); exact rfl; exact rfl)
    | ((with_reducible apply lm_sAA); exact rfl; first | exact rfl | exact lm_roO (by omega) | exact lm_roM (by omega))
    | ((with_reducible apply lm_sI); exact lm_fpL (by omega))
    | ((with_reducible apply lm_sR); exact lm_fpB (by omega))
    | ((with_reducible apply lm_sP); exact lm_fpL (by omega); exact rfl)
    | ((with_reducible apply lm_sS); exact lm_ocO (by omega); exact rfl)
    | ((with_reducible apply lm_sA); exact rfl; omega)
    | ((with_reducible apply lm_sJ); exact rfl; omega)
    | ((with_reducible apply lm_sB); (first | exact rfl | exact lm_arB (by omega) | exact lm_arM (by omega)); omega)
    | ((with_reducible apply lm_wA); exact rfl; omega)
    | ((with_reducible apply lm_wJ); exact rfl; omega)
    | ((with_reducible apply lm_wB); (first | exact rfl | exact lm_arB (by omega) | exact lm_arM (by omega)); omega)
    | ((with_reducible apply lm_sAl); (first | exact rfl | exact lm_arB (by omega) | exact lm_arM (by omega)); omega)
    | ((with_reducible apply lm_iW); decide))
    refine lm_cV c1 ?_
    simp only [Nat.reduceDiv, Nat.reduceMod, h4]
    exact c2
end LMFI
