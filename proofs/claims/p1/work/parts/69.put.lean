/-! ===== the reference's hashes: put ===== -/
/-- how much is filled, the total, the state, the block -/
abbrev lm_HV : Type := Nat × Int64 × (Nat → Int64) × (Nat → Int32)
/-- the tables: turns, rounds, cubes -/
abbrev lm_TB : Type := (Nat → Int32) × (Nat → Int64) × (Nat → Int64)
def lm_flp (S : Nat → Int64) (f : Nat) (v : Int32) : Nat → Int64 := fun i => if i = f / 8 then S i ^^^ (((Int32.toInt64 v) &&& (Int64.ofNat 255)) <<< ((Int32.toInt64 (Int32.ofNat (8 * (f % 8)))) &&& 63)) else S i
def lm_cpr (T : lm_TB) (k r : Nat) (S : Nat → Int64) (b : Nat → Int32) : Nat → Int64 := if 6 < k then lm_kF T.1 T.2.1 24 0 S else if r = 64 then lm_cc2 T.2.2 S b else lm_cc5 T.2.2 S b
def lm_hS (k : Nat) (v : Int32) (h : lm_HV) : Nat → Int64 := if 6 < k then lm_flp h.2.2.1 h.1 v else h.2.2.1
def lm_hB (k : Nat) (v : Int32) (h : lm_HV) : Nat → Int32 := if 6 < k then h.2.2.2 else fun i => if i = h.1 then lm_b8 v else h.2.2.2 i
def lm_hp (T : lm_TB) (k r : Nat) (v : Int32) (h : lm_HV) : lm_HV := if h.1 + 1 = r then (0, h.2.1 + Int64.ofNat 1, lm_cpr T k r (lm_hS k v h) (lm_hB k v h), lm_hB k v h) else (h.1 + 1, h.2.1 + Int64.ofNat 1, lm_hS k v h, lm_hB k v h)
def lm_HS (m : lm_MI) (n : lm_ML) (k r : Nat) (h : lm_HV) : Prop := m 203 18 = Int32.ofNat k ∧ m 203 19 = Int32.ofNat r ∧ m 203 20 = Int32.ofNat h.1 ∧ n 203 21 = h.2.1 ∧ n 223 = h.2.2.1 ∧ m 227 = h.2.2.2
def lm_tb (m : lm_MI) (n : lm_ML) : lm_TB := (m 221, n 222, n 216)
/-- a kind and its rate -/
def lm_kr (k r : Nat) : Prop := k ≤ 12 ∧ r ≤ 200 ∧ (k ≤ 6 → r = 64 ∨ r = 128)
/-- only the hash's own places are written -/
def lm_fh (m : lm_MI) (n : lm_ML) (m' : lm_MI) (n' : lm_ML) : Prop := (∀ q, q ≠ 203 → q ≠ 227 → m' q = m q) ∧ (∀ j, j ≠ 18 → j ≠ 19 → j ≠ 20 → m' 203 j = m 203 j) ∧ (∀ q, q ≠ 203 → q ≠ 223 → q ≠ 224 → q ≠ 225 → q ≠ 226 → n' q = n q)
theorem lm_fh.rf {m : lm_MI} {n : lm_ML} : lm_fh m n m n := ⟨fun _ _ _ => rfl, fun _ _ _ _ => rfl, fun _ _ _ _ _ _ => rfl⟩
theorem lm_fh.tr {m m1 m2 : lm_MI} {n n1 n2 : lm_ML} (h : lm_fh m n m1 n1) (g : lm_fh m1 n1 m2 n2) : lm_fh m n m2 n2 := ⟨fun q a b => (g.1 q a b).trans (h.1 q a b), fun j a b c => (g.2.1 j a b c).trans (h.2.1 j a b c), fun q a b c d e => (g.2.2 q a b c d e).trans (h.2.2 q a b c d e)⟩
theorem lm_fh.tb {m m' : lm_MI} {n n' : lm_ML} (h : lm_fh m n m' n') : lm_tb m' n' = lm_tb m n := by
  unfold lm_tb
  rw [h.1 221 (by decide) (by decide), h.2.2 222 (by decide) (by decide) (by decide) (by decide) (by decide), h.2.2 216 (by decide) (by decide) (by decide) (by decide) (by decide)]
def lm_RH (x : lm_H × Nat × Nat) (m : lm_MI) (n : lm_ML) (k r : Nat) (h : lm_HV) (v : lm_R) (o : Option (Except Nat lm_R × lm_S)) : Prop := ∃ m' n', o = some (.ok v, lm_w m' n' x) ∧ lm_HS m' n' k r h ∧ lm_fh m n m' n'
section LMPU
variable {sc : lm_H} {d k r : Nat} {m : lm_MI} {n : lm_ML} {x : lm_H × Nat × Nat} {h : lm_HV}
theorem lm_u148 (hk : m 203 18 = Int32.ofNat k) (hl : k ≤ 12) : lm_cal sc (d + 1) 148 [.ref 203] (lm_w m n x) = some (.ok (some (.int (lm_z (decide (6 < k))))), lm_w m n x) := by
  refine lm_cal_of (Y := lm_m148) rfl rfl (lm_e148_0 ?_)
  unfold lm_q148_0
  repeat (first
    | ((with_reducible apply lm_sI); exact rfl)
    | ((with_reducible apply lm_sR); exact rfl)
    | ((with_reducible apply lm_sS); exact rfl; exact rfl)
    | ((with_reducible apply lm_sL); exact rfl)
    | ((with_reducible apply lm_sP); exact rfl; exact rfl)
    | ((with_reducible apply lm_sPL); exact rfl; exact rfl)
    | ((with_reducible apply lm_sAA); exact rfl; first | exact rfl | exact lm_roO (by omega) | exact lm_roM (by omega))
    | ((with_reducible apply lm_sI); exact lm_fpL (by omega))
    | ((with_reducible apply lm_sR); exact lm_fpB (by omega))
    | ((with_reducible apply lm_sP); exact lm_fpL (by omega); exact rfl)
    | ((with_reducible apply lm_sS); exact lm_ocO (by omega); exact rfl)
    | ((with_reducible apply lm_sA); exact rfl; omega)
    | ((with_reducible apply lm_sJ); exact rfl; omega)
    | ((with_reducible apply lm_sB); (first | exact rfl | exact lm_arB (by omega) | exact lm_arM (by omega)); omega)
    | ((with_reducible apply lm_wA); exact rfl; omega)
    | ((with_reducible apply lm_wJ); exact rfl; omega)
    | ((with_reducible apply lm_wB); (first | exact rfl | exact lm_arB (by omega) | exact lm_arM (by omega)); omega)
    | ((with_reducible apply lm_sAl); (first | exact rfl | exact lm_arB (by omega) | exact lm_arM (by omega)); omega)
    | ((with_reducible apply lm_iW); decide))
  simp only [Nat.reduceDiv, Nat.reduceMod, hk, lm_K6]
  by_cases c : k ≤ 6
  · rw [decide_eq_false (by omega)]
    exact lm_leT (by omega) (by omega) c (lm_iW (by decide) rfl)
  · rw [decide_eq_true (by omega)]
    exact lm_leF (by omega) (by omega) c (lm_iW (by decide) rfl)
theorem lm_u153 {f : Nat} {v : Int32} (hf : f < 200) : lm_cal sc (d + 1) 153 [.ref 203, .int (Int32.ofNat f), .int v] (lm_w m n x) = some (.ok none, lm_w m (lm_u n 223 (f / 8) (n 223 (f / 8) ^^^ (((Int32.toInt64 v) &&& (Int64.ofNat 255)) <<< ((Int32.toInt64 (Int32.ofNat (8 * (f % 8)))) &&& 63)))) x) := by
  refine lm_cal_of (Y := lm_m153) rfl rfl (lm_e153_0 ?_)
  unfold lm_q153_0
  simp only [lm_K8]
  rw [lm_od (by omega) (by omega), lm_orm (by omega) (by omega), lm_om]
  repeat (first
    | ((with_reducible apply lm_sI); exact rfl)
    | ((with_reducible apply lm_sR); exact rfl)
    | ((with_reducible apply lm_sS); exact rfl; exact rfl)
    | ((with_reducible apply lm_sL); exact rfl)
    | ((with_reducible apply lm_sP); exact rfl; exact rfl)
    | ((with_reducible apply lm_sPL); exact rfl; exact rfl)
    | ((with_reducible apply lm_sAA); exact rfl; first | exact rfl | exact lm_roO (by omega) | exact lm_roM (by omega))
    | ((with_reducible apply lm_sI); exact lm_fpL (by omega))
    | ((with_reducible apply lm_sR); exact lm_fpB (by omega))
    | ((with_reducible apply lm_sP); exact lm_fpL (by omega); exact rfl)
    | ((with_reducible apply lm_sS); exact lm_ocO (by omega); exact rfl)
    | ((with_reducible apply lm_sA); exact rfl; omega)
    | ((with_reducible apply lm_sJ); exact rfl; omega)
    | ((with_reducible apply lm_sB); (first | exact rfl | exact lm_arB (by omega) | exact lm_arM (by omega)); omega)
    | ((with_reducible apply lm_wA); exact rfl; omega)
    | ((with_reducible apply lm_wJ); exact rfl; omega)
    | ((with_reducible apply lm_wB); (first | exact rfl | exact lm_arB (by omega) | exact lm_arM (by omega)); omega)
    | ((with_reducible apply lm_sAl); (first | exact rfl | exact lm_arB (by omega) | exact lm_arM (by omega)); omega)
    | ((with_reducible apply lm_iW); decide))
  exact rfl
theorem lm_flp_u {f : Nat} {v : Int32} : lm_u n 223 (f / 8) (n 223 (f / 8) ^^^ (((Int32.toInt64 v) &&& (Int64.ofNat 255)) <<< ((Int32.toInt64 (Int32.ofNat (8 * (f % 8)))) &&& 63))) 223 = lm_flp (n 223) f v := by
  funext i
  unfold lm_flp lm_u
  by_cases c : i = f / 8
  · rw [if_pos ⟨rfl, c⟩, if_pos c, c]
  · rw [if_neg (fun g => c g.2), if_neg c]
/-- behind the byte: the count, and a full block is taken -/
theorem lm_l69 {S : Nat → Int64} {b : Nat → Int32} {f : Nat} {t : Int64} {m0 : lm_MI} {n0 : lm_ML} (hr : lm_kr k r) (hf : f < r) (h1 : m 203 18 = Int32.ofNat k) (h2 : m 203 19 = Int32.ofNat r) (h3 : m 203 20 = Int32.ofNat f) (h4 : n 203 21 = t) (h5 : n 223 = S) (h6 : m 227 = b) (hfr : lm_fh m0 n0 m n) :
    lm_RH x m0 n0 k r (if f + 1 = r then (0, t + Int64.ofNat 1, lm_cpr (lm_tb m0 n0) k r S b, b) else (f + 1, t + Int64.ofNat 1, S, b)) none (lm_rn sc (d + 2) lm_m69.2.2.2.2.1 (lm_reg lm_m69.2.2.2.2.2) (30, [(0, .ref 203)], []) (lm_w m n x)) := by
  obtain ⟨r1, r2, r3⟩ := hr
  have et := hfr.tb
  have f1 : lm_fh m0 n0 (lm_u m 203 20 (Int32.ofNat (f + 1))) (lm_u n 203 21 (t + Int64.ofNat 1)) := hfr.tr ⟨fun q a b => lm_u_row a, fun j a b c => lm_u_ne (fun g => c g.2), fun q a b c d e => lm_u_row a⟩
  by_cases c : f + 1 = r
  · rw [if_pos c]
    have run : ∀ n3 : lm_ML, n3 203 = lm_u n 203 21 (t + Int64.ofNat 1) 203 → n3 223 = lm_cpr (lm_tb m0 n0) k r S b → (∀ q, q ≠ 203 → q ≠ 223 → q ≠ 224 → q ≠ 225 → q ≠ 226 → n3 q = n0 q) → lm_HS (lm_u (lm_u m 203 20 (Int32.ofNat (f + 1))) 203 20 (Int32.ofInt 0)) n3 k r (0, t + Int64.ofNat 1, lm_cpr (lm_tb m0 n0) k r S b, b) ∧ lm_fh m0 n0 (lm_u (lm_u m 203 20 (Int32.ofNat (f + 1))) 203 20 (Int32.ofInt 0)) n3 := by
      intro n3 g1 g2 g3
      refine ⟨⟨?_, ?_, ?_, ?_, g2, ?_⟩, ?_, ?_, ?_⟩
      · rw [lm_u_ne (by decide), lm_u_ne (by decide)]; exact h1
      · rw [lm_u_ne (by decide), lm_u_ne (by decide)]; exact h2
      · exact lm_u_eq
      · rw [g1, lm_u_eq]
      · rw [lm_u_row (by decide), lm_u_row (by decide)]; exact h6
      · intro q a b
        rw [lm_u_row a, lm_u_row a]; exact hfr.1 q a b
      · intro j a b c
        rw [lm_u_ne (fun g => c g.2), lm_u_ne (fun g => c g.2)]; exact hfr.2.1 j a b c
      · exact g3
    by_cases ck : 6 < k
    · obtain ⟨n3, e, g1, g2⟩ := lm_u154 (sc := sc) (d := d) (m := lm_u m 203 20 (Int32.ofNat (f + 1))) (x := x) (n := lm_u n 203 21 (t + Int64.ofNat 1))
      obtain ⟨a1, a2⟩ := run n3 (g2 203 (by decide) (by decide) (by decide)) (by
        rw [g1, lm_u_row (by decide), lm_u_row (by decide), lm_u_row (by decide), h5]
        unfold lm_cpr
        rw [if_pos ck, ← et]
        rfl) (fun q b1 b2 b3 b4 b5 => by rw [g2 q b2 b3 b4, lm_u_row b1]; exact hfr.2.2 q b1 b2 b3 b4 b5)
      refine ⟨_, n3, ?_, a1, a2⟩
      refine lm_e69_30 ?_
      unfold lm_q69_30
      repeat (first
    | ((with_reducible apply lm_sI); exact rfl)
    | ((with_reducible apply lm_sR); exact rfl)
    | ((with_reducible apply lm_sS); exact rfl; exact rfl)
    | ((with_reducible apply lm_sL); exact rfl)
    | ((with_reducible apply lm_sP); exact rfl; exact rfl)
    | ((with_reducible apply lm_sPL); exact rfl; exact rfl)
    | ((with_reducible apply lm_sAA); exact rfl; first | exact rfl | exact lm_roO (by omega) | exact lm_roM (by omega))
    | ((with_reducible apply lm_sI); exact lm_fpL (by omega))
    | ((with_reducible apply lm_sR); exact lm_fpB (by omega))
    | ((with_reducible apply lm_sP); exact lm_fpL (by omega); exact rfl)
    | ((with_reducible apply lm_sS); exact lm_ocO (by omega); exact rfl)
    | ((with_reducible apply lm_sA); exact rfl; omega)
    | ((with_reducible apply lm_sJ); exact rfl; omega)
    | ((with_reducible apply lm_sB); (first | exact rfl | exact lm_arB (by omega) | exact lm_arM (by omega)); omega)
    | ((with_reducible apply lm_wA); exact rfl; omega)
    | ((with_reducible apply lm_wJ); exact rfl; omega)
    | ((with_reducible apply lm_wB); (first | exact rfl | exact lm_arB (by omega) | exact lm_arM (by omega)); omega)
    | ((with_reducible apply lm_sAl); (first | exact rfl | exact lm_arB (by omega) | exact lm_arM (by omega)); omega)
    | ((with_reducible apply lm_iW); decide))
      simp only [Nat.reduceDiv, Nat.reduceMod, lm_u_eq, h2, h3, h4, lm_K1, lm_oo]
      rw [lm_u_ne (by decide), h2, c]
      refine lm_neF (by omega) (by omega) (fun g => g rfl) ?_
      repeat (first
    | ((with_reducible apply lm_sI); exact rfl)
    | ((with_reducible apply lm_sR); exact rfl)
    | ((with_reducible apply lm_sS); exact rfl; exact rfl)
    | ((with_reducible apply lm_sL); exact rfl)
    | ((with_reducible apply lm_sP); exact rfl; exact rfl)
    | ((with_reducible apply lm_sPL); exact rfl; exact rfl)
    | ((with_reducible apply lm_sAA); exact rfl; first | exact rfl | exact lm_roO (by omega) | exact lm_roM (by omega))
    | ((with_reducible apply lm_sI); exact lm_fpL (by omega))
    | ((with_reducible apply lm_sR); exact lm_fpB (by omega))
    | ((with_reducible apply lm_sP); exact lm_fpL (by omega); exact rfl)
    | ((with_reducible apply lm_sS); exact lm_ocO (by omega); exact rfl)
    | ((with_reducible apply lm_sA); exact rfl; omega)
    | ((with_reducible apply lm_sJ); exact rfl; omega)
    | ((with_reducible apply lm_sB); (first | exact rfl | exact lm_arB (by omega) | exact lm_arM (by omega)); omega)
    | ((with_reducible apply lm_wA); exact rfl; omega)
    | ((with_reducible apply lm_wJ); exact rfl; omega)
    | ((with_reducible apply lm_wB); (first | exact rfl | exact lm_arB (by omega) | exact lm_arM (by omega)); omega)
    | ((with_reducible apply lm_sAl); (first | exact rfl | exact lm_arB (by omega) | exact lm_arM (by omega)); omega)
    | ((with_reducible apply lm_iW); decide))
      rw [← c]
      refine lm_cI (lm_u148 (k := k) (d := d + 1) (by rw [lm_u_ne (by decide)]; exact h1) r1) ?_
      rw [decide_eq_true ck]
      refine lm_iF (show ¬ (1 : Int32) = 0 by decide) ?_
      repeat (first
    | ((with_reducible apply lm_sI); exact rfl)
    | ((with_reducible apply lm_sR); exact rfl)
    | ((with_reducible apply lm_sS); exact rfl; exact rfl)
    | ((with_reducible apply lm_sL); exact rfl)
    | ((with_reducible apply lm_sP); exact rfl; exact rfl)
    | ((with_reducible apply lm_sPL); exact rfl; exact rfl)
    | ((with_reducible apply lm_sAA); exact rfl; first | exact rfl | exact lm_roO (by omega) | exact lm_roM (by omega))
    | ((with_reducible apply lm_sI); exact lm_fpL (by omega))
    | ((with_reducible apply lm_sR); exact lm_fpB (by omega))
    | ((with_reducible apply lm_sP); exact lm_fpL (by omega); exact rfl)
    | ((with_reducible apply lm_sS); exact lm_ocO (by omega); exact rfl)
    | ((with_reducible apply lm_sA); exact rfl; omega)
    | ((with_reducible apply lm_sJ); exact rfl; omega)
    | ((with_reducible apply lm_sB); (first | exact rfl | exact lm_arB (by omega) | exact lm_arM (by omega)); omega)
    | ((with_reducible apply lm_wA); exact rfl; omega)
    | ((with_reducible apply lm_wJ); exact rfl; omega)
    | ((with_reducible apply lm_wB); (first | exact rfl | exact lm_arB (by omega) | exact lm_arM (by omega)); omega)
    | ((with_reducible apply lm_sAl); (first | exact rfl | exact lm_arB (by omega) | exact lm_arM (by omega)); omega)
    | ((with_reducible apply lm_iW); decide))
      refine lm_cV e ?_
      repeat (first
    | ((with_reducible apply lm_sI); exact rfl)
    | ((with_reducible apply lm_sR); exact rfl)
    | ((with_reducible apply lm_sS); exact rfl; exact rfl)
    | ((with_reducible apply lm_sL); exact rfl)
    | ((with_reducible apply lm_sP); exact rfl; exact rfl)
    | ((with_reducible apply lm_sPL); exact rfl; exact rfl)
    | ((with_reducible apply lm_sAA); exact rfl; first | exact rfl | exact lm_roO (by omega) | exact lm_roM (by omega))
    | ((with_reducible apply lm_sI); exact lm_fpL (by omega))
    | ((with_reducible apply lm_sR); exact lm_fpB (by omega))
    | ((with_reducible apply lm_sP); exact lm_fpL (by omega); exact rfl)
    | ((with_reducible apply lm_sS); exact lm_ocO (by omega); exact rfl)
    | ((with_reducible apply lm_sA); exact rfl; omega)
    | ((with_reducible apply lm_sJ); exact rfl; omega)
    | ((with_reducible apply lm_sB); (first | exact rfl | exact lm_arB (by omega) | exact lm_arM (by omega)); omega)
    | ((with_reducible apply lm_wA); exact rfl; omega)
    | ((with_reducible apply lm_wJ); exact rfl; omega)
    | ((with_reducible apply lm_wB); (first | exact rfl | exact lm_arB (by omega) | exact lm_arM (by omega)); omega)
    | ((with_reducible apply lm_sAl); (first | exact rfl | exact lm_arB (by omega) | exact lm_arM (by omega)); omega)
    | ((with_reducible apply lm_iW); decide))
      exact rfl
    · by_cases c64 : r = 64
      · obtain ⟨n3, e, g1, g2⟩ := lm_u155 (sc := sc) (d := d) (m := lm_u m 203 20 (Int32.ofNat (f + 1))) (x := x) (n := lm_u n 203 21 (t + Int64.ofNat 1))
        obtain ⟨a1, a2⟩ := run n3 (g2 203 (by decide) (by decide)) (by
          rw [g1, lm_u_row (by decide), lm_u_row (by decide), lm_u_row (by decide), h5, h6]
          unfold lm_cpr
          rw [if_neg ck, if_pos c64, ← et]
          rfl) (fun q b1 b2 b3 b4 b5 => by rw [g2 q b2 b5, lm_u_row b1]; exact hfr.2.2 q b1 b2 b3 b4 b5)
        refine ⟨_, n3, ?_, a1, a2⟩
        refine lm_e69_30 ?_
        unfold lm_q69_30
        repeat (first
    | ((with_reducible apply lm_sI); exact rfl)
    | ((with_reducible apply lm_sR); exact rfl)
    | ((with_reducible apply lm_sS); exact rfl; exact rfl)
    | ((with_reducible apply lm_sL); exact rfl)
    | ((with_reducible apply lm_sP); exact rfl; exact rfl)
    | ((with_reducible apply lm_sPL); exact rfl; exact rfl)
    | ((with_reducible apply lm_sAA); exact rfl; first | exact rfl | exact lm_roO (by omega) | exact lm_roM (by omega))
    | ((with_reducible apply lm_sI); exact lm_fpL (by omega))
    | ((with_reducible apply lm_sR); exact lm_fpB (by omega))
    | ((with_reducible apply lm_sP); exact lm_fpL (by omega); exact rfl)
    | ((with_reducible apply lm_sS); exact lm_ocO (by omega); exact rfl)
    | ((with_reducible apply lm_sA); exact rfl; omega)
    | ((with_reducible apply lm_sJ); exact rfl; omega)
    | ((with_reducible apply lm_sB); (first | exact rfl | exact lm_arB (by omega) | exact lm_arM (by omega)); omega)
    | ((with_reducible apply lm_wA); exact rfl; omega)
    | ((with_reducible apply lm_wJ); exact rfl; omega)
    | ((with_reducible apply lm_wB); (first | exact rfl | exact lm_arB (by omega) | exact lm_arM (by omega)); omega)
    | ((with_reducible apply lm_sAl); (first | exact rfl | exact lm_arB (by omega) | exact lm_arM (by omega)); omega)
    | ((with_reducible apply lm_iW); decide))
        simp only [Nat.reduceDiv, Nat.reduceMod, lm_u_eq, h2, h3, h4, lm_K1, lm_K64, lm_oo]
        rw [lm_u_ne (by decide), h2, c]
        refine lm_neF (by omega) (by omega) (fun g => g rfl) ?_
        repeat (first
    | ((with_reducible apply lm_sI); exact rfl)
    | ((with_reducible apply lm_sR); exact rfl)
    | ((with_reducible apply lm_sS); exact rfl; exact rfl)
    | ((with_reducible apply lm_sL); exact rfl)
    | ((with_reducible apply lm_sP); exact rfl; exact rfl)
    | ((with_reducible apply lm_sPL); exact rfl; exact rfl)
    | ((with_reducible apply lm_sAA); exact rfl; first | exact rfl | exact lm_roO (by omega) | exact lm_roM (by omega))
    | ((with_reducible apply lm_sI); exact lm_fpL (by omega))
    | ((with_reducible apply lm_sR); exact lm_fpB (by omega))
    | ((with_reducible apply lm_sP); exact lm_fpL (by omega); exact rfl)
    | ((with_reducible apply lm_sS); exact lm_ocO (by omega); exact rfl)
    | ((with_reducible apply lm_sA); exact rfl; omega)
    | ((with_reducible apply lm_sJ); exact rfl; omega)
    | ((with_reducible apply lm_sB); (first | exact rfl | exact lm_arB (by omega) | exact lm_arM (by omega)); omega)
    | ((with_reducible apply lm_wA); exact rfl; omega)
    | ((with_reducible apply lm_wJ); exact rfl; omega)
    | ((with_reducible apply lm_wB); (first | exact rfl | exact lm_arB (by omega) | exact lm_arM (by omega)); omega)
    | ((with_reducible apply lm_sAl); (first | exact rfl | exact lm_arB (by omega) | exact lm_arM (by omega)); omega)
    | ((with_reducible apply lm_iW); decide))
        rw [← c]
        refine lm_cI (lm_u148 (k := k) (d := d + 1) (by rw [lm_u_ne (by decide)]; exact h1) r1) ?_
        rw [decide_eq_false ck]
        refine lm_iT (show (0 : Int32) = 0 by decide) ?_
        repeat (first
    | ((with_reducible apply lm_sI); exact rfl)
    | ((with_reducible apply lm_sR); exact rfl)
    | ((with_reducible apply lm_sS); exact rfl; exact rfl)
    | ((with_reducible apply lm_sL); exact rfl)
    | ((with_reducible apply lm_sP); exact rfl; exact rfl)
    | ((with_reducible apply lm_sPL); exact rfl; exact rfl)
    | ((with_reducible apply lm_sAA); exact rfl; first | exact rfl | exact lm_roO (by omega) | exact lm_roM (by omega))
    | ((with_reducible apply lm_sI); exact lm_fpL (by omega))
    | ((with_reducible apply lm_sR); exact lm_fpB (by omega))
    | ((with_reducible apply lm_sP); exact lm_fpL (by omega); exact rfl)
    | ((with_reducible apply lm_sS); exact lm_ocO (by omega); exact rfl)
    | ((with_reducible apply lm_sA); exact rfl; omega)
    | ((with_reducible apply lm_sJ); exact rfl; omega)
    | ((with_reducible apply lm_sB); (first | exact rfl | exact lm_arB (by omega) | exact lm_arM (by omega)); omega)
    | ((with_reducible apply lm_wA); exact rfl; omega)
    | ((with_reducible apply lm_wJ); exact rfl; omega)
    | ((with_reducible apply lm_wB); (first | exact rfl | exact lm_arB (by omega) | exact lm_arM (by omega)); omega)
    | ((with_reducible apply lm_sAl); (first | exact rfl | exact lm_arB (by omega) | exact lm_arM (by omega)); omega)
    | ((with_reducible apply lm_iW); decide))
        simp only [Nat.reduceDiv, Nat.reduceMod]
        rw [lm_u_ne (by decide), h2]
        refine lm_neF (by omega) (by omega) (fun g => g c64) ?_
        repeat (first
    | ((with_reducible apply lm_sI); exact rfl)
    | ((with_reducible apply lm_sR); exact rfl)
    | ((with_reducible apply lm_sS); exact rfl; exact rfl)
    | ((with_reducible apply lm_sL); exact rfl)
    | ((with_reducible apply lm_sP); exact rfl; exact rfl)
    | ((with_reducible apply lm_sPL); exact rfl; exact rfl)
    | ((with_reducible apply lm_sAA); exact rfl; first | exact rfl | exact lm_roO (by omega) | exact lm_roM (by omega))
    | ((with_reducible apply lm_sI); exact lm_fpL (by omega))
    | ((with_reducible apply lm_sR); exact lm_fpB (by omega))
    | ((with_reducible apply lm_sP); exact lm_fpL (by omega); exact rfl)
    | ((with_reducible apply lm_sS); exact lm_ocO (by omega); exact rfl)
    | ((with_reducible apply lm_sA); exact rfl; omega)
    | ((with_reducible apply lm_sJ); exact rfl; omega)
    | ((with_reducible apply lm_sB); (first | exact rfl | exact lm_arB (by omega) | exact lm_arM (by omega)); omega)
    | ((with_reducible apply lm_wA); exact rfl; omega)
    | ((with_reducible apply lm_wJ); exact rfl; omega)
    | ((with_reducible apply lm_wB); (first | exact rfl | exact lm_arB (by omega) | exact lm_arM (by omega)); omega)
    | ((with_reducible apply lm_sAl); (first | exact rfl | exact lm_arB (by omega) | exact lm_arM (by omega)); omega)
    | ((with_reducible apply lm_iW); decide))
        refine lm_cV e ?_
        repeat (first
    | ((with_reducible apply lm_sI); exact rfl)
    | ((with_reducible apply lm_sR); exact rfl)
    | ((with_reducible apply lm_sS); exact rfl; exact rfl)
    | ((with_reducible apply lm_sL); exact rfl)
    | ((with_reducible apply lm_sP); exact rfl; exact rfl)
    | ((with_reducible apply lm_sPL); exact rfl; exact rfl)
    | ((with_reducible apply lm_sAA); exact rfl; first | exact rfl | exact lm_roO (by omega) | exact lm_roM (by omega))
    | ((with_reducible apply lm_sI); exact lm_fpL (by omega))
    | ((with_reducible apply lm_sR); exact lm_fpB (by omega))
    | ((with_reducible apply lm_sP); exact lm_fpL (by omega); exact rfl)
    | ((with_reducible apply lm_sS); exact lm_ocO (by omega); exact rfl)
    | ((with_reducible apply lm_sA); exact rfl; omega)
    | ((with_reducible apply lm_sJ); exact rfl; omega)
    | ((with_reducible apply lm_sB); (first | exact rfl | exact lm_arB (by omega) | exact lm_arM (by omega)); omega)
    | ((with_reducible apply lm_wA); exact rfl; omega)
    | ((with_reducible apply lm_wJ); exact rfl; omega)
    | ((with_reducible apply lm_wB); (first | exact rfl | exact lm_arB (by omega) | exact lm_arM (by omega)); omega)
    | ((with_reducible apply lm_sAl); (first | exact rfl | exact lm_arB (by omega) | exact lm_arM (by omega)); omega)
    | ((with_reducible apply lm_iW); decide))
        exact rfl
      · obtain ⟨n3, e, g1, g2⟩ := lm_u156 (sc := sc) (d := d) (m := lm_u m 203 20 (Int32.ofNat (f + 1))) (x := x) (n := lm_u n 203 21 (t + Int64.ofNat 1))
        obtain ⟨a1, a2⟩ := run n3 (g2 203 (by decide) (by decide)) (by
          rw [g1, lm_u_row (by decide), lm_u_row (by decide), lm_u_row (by decide), h5, h6]
          unfold lm_cpr
          rw [if_neg ck, if_neg c64, ← et]
          rfl) (fun q b1 b2 b3 b4 b5 => by rw [g2 q b2 b5, lm_u_row b1]; exact hfr.2.2 q b1 b2 b3 b4 b5)
        refine ⟨_, n3, ?_, a1, a2⟩
        refine lm_e69_30 ?_
        unfold lm_q69_30
        repeat (first
    | ((with_reducible apply lm_sI); exact rfl)
    | ((with_reducible apply lm_sR); exact rfl)
    | ((with_reducible apply lm_sS); exact rfl; exact rfl)
    | ((with_reducible apply lm_sL); exact rfl)
    | ((with_reducible apply lm_sP); exact rfl; exact rfl)
    | ((with_reducible apply lm_sPL); exact rfl; exact rfl)
    | ((with_reducible apply lm_sAA); exact rfl; first | exact rfl | exact lm_roO (by omega) | exact lm_roM (by omega))
    | ((with_reducible apply lm_sI); exact lm_fpL (by omega))
    | ((with_reducible apply lm_sR); exact lm_fpB (by omega))
    | ((with_reducible apply lm_sP); exact lm_fpL (by omega); exact rfl)
    | ((with_reducible apply lm_sS); exact lm_ocO (by omega); exact rfl)
    | ((with_reducible apply lm_sA); exact rfl; omega)
    | ((with_reducible apply lm_sJ); exact rfl; omega)
    | ((with_reducible apply lm_sB); (first | exact rfl | exact lm_arB (by omega) | exact lm_arM (by omega)); omega)
    | ((with_reducible apply lm_wA); exact rfl; omega)
    | ((with_reducible apply lm_wJ); exact rfl; omega)
    | ((with_reducible apply lm_wB); (first | exact rfl | exact lm_arB (by omega) | exact lm_arM (by omega)); omega)
    | ((with_reducible apply lm_sAl); (first | exact rfl | exact lm_arB (by omega) | exact lm_arM (by omega)); omega)
    | ((with_reducible apply lm_iW); decide))
        simp only [Nat.reduceDiv, Nat.reduceMod, lm_u_eq, h2, h3, h4, lm_K1, lm_K64, lm_oo]
        rw [lm_u_ne (by decide), h2, c]
        refine lm_neF (by omega) (by omega) (fun g => g rfl) ?_
        repeat (first
    | ((with_reducible apply lm_sI); exact rfl)
    | ((with_reducible apply lm_sR); exact rfl)
    | ((with_reducible apply lm_sS); exact rfl; exact rfl)
    | ((with_reducible apply lm_sL); exact rfl)
    | ((with_reducible apply lm_sP); exact rfl; exact rfl)
    | ((with_reducible apply lm_sPL); exact rfl; exact rfl)
    | ((with_reducible apply lm_sAA); exact rfl; first | exact rfl | exact lm_roO (by omega) | exact lm_roM (by omega))
    | ((with_reducible apply lm_sI); exact lm_fpL (by omega))
    | ((with_reducible apply lm_sR); exact lm_fpB (by omega))
    | ((with_reducible apply lm_sP); exact lm_fpL (by omega); exact rfl)
    | ((with_reducible apply lm_sS); exact lm_ocO (by omega); exact rfl)
    | ((with_reducible apply lm_sA); exact rfl; omega)
    | ((with_reducible apply lm_sJ); exact rfl; omega)
    | ((with_reducible apply lm_sB); (first | exact rfl | exact lm_arB (by omega) | exact lm_arM (by omega)); omega)
    | ((with_reducible apply lm_wA); exact rfl; omega)
    | ((with_reducible apply lm_wJ); exact rfl; omega)
    | ((with_reducible apply lm_wB); (first | exact rfl | exact lm_arB (by omega) | exact lm_arM (by omega)); omega)
    | ((with_reducible apply lm_sAl); (first | exact rfl | exact lm_arB (by omega) | exact lm_arM (by omega)); omega)
    | ((with_reducible apply lm_iW); decide))
        rw [← c]
        refine lm_cI (lm_u148 (k := k) (d := d + 1) (by rw [lm_u_ne (by decide)]; exact h1) r1) ?_
        rw [decide_eq_false ck]
        refine lm_iT (show (0 : Int32) = 0 by decide) ?_
        repeat (first
    | ((with_reducible apply lm_sI); exact rfl)
    | ((with_reducible apply lm_sR); exact rfl)
    | ((with_reducible apply lm_sS); exact rfl; exact rfl)
    | ((with_reducible apply lm_sL); exact rfl)
    | ((with_reducible apply lm_sP); exact rfl; exact rfl)
    | ((with_reducible apply lm_sPL); exact rfl; exact rfl)
    | ((with_reducible apply lm_sAA); exact rfl; first | exact rfl | exact lm_roO (by omega) | exact lm_roM (by omega))
    | ((with_reducible apply lm_sI); exact lm_fpL (by omega))
    | ((with_reducible apply lm_sR); exact lm_fpB (by omega))
    | ((with_reducible apply lm_sP); exact lm_fpL (by omega); exact rfl)
    | ((with_reducible apply lm_sS); exact lm_ocO (by omega); exact rfl)
    | ((with_reducible apply lm_sA); exact rfl; omega)
    | ((with_reducible apply lm_sJ); exact rfl; omega)
    | ((with_reducible apply lm_sB); (first | exact rfl | exact lm_arB (by omega) | exact lm_arM (by omega)); omega)
    | ((with_reducible apply lm_wA); exact rfl; omega)
    | ((with_reducible apply lm_wJ); exact rfl; omega)
    | ((with_reducible apply lm_wB); (first | exact rfl | exact lm_arB (by omega) | exact lm_arM (by omega)); omega)
    | ((with_reducible apply lm_sAl); (first | exact rfl | exact lm_arB (by omega) | exact lm_arM (by omega)); omega)
    | ((with_reducible apply lm_iW); decide))
        simp only [Nat.reduceDiv, Nat.reduceMod]
        rw [lm_u_ne (by decide), h2]
        refine lm_neT (by omega) (by omega) c64 ?_
        repeat (first
    | ((with_reducible apply lm_sI); exact rfl)
    | ((with_reducible apply lm_sR); exact rfl)
    | ((with_reducible apply lm_sS); exact rfl; exact rfl)
    | ((with_reducible apply lm_sL); exact rfl)
    | ((with_reducible apply lm_sP); exact rfl; exact rfl)
    | ((with_reducible apply lm_sPL); exact rfl; exact rfl)
    | ((with_reducible apply lm_sAA); exact rfl; first | exact rfl | exact lm_roO (by omega) | exact lm_roM (by omega))
    | ((with_reducible apply lm_sI); exact lm_fpL (by omega))
    | ((with_reducible apply lm_sR); exact lm_fpB (by omega))
    | ((with_reducible apply lm_sP); exact lm_fpL (by omega); exact rfl)
    | ((with_reducible apply lm_sS); exact lm_ocO (by omega); exact rfl)
    | ((with_reducible apply lm_sA); exact rfl; omega)
    | ((with_reducible apply lm_sJ); exact rfl; omega)
    | ((with_reducible apply lm_sB); (first | exact rfl | exact lm_arB (by omega) | exact lm_arM (by omega)); omega)
    | ((with_reducible apply lm_wA); exact rfl; omega)
    | ((with_reducible apply lm_wJ); exact rfl; omega)
    | ((with_reducible apply lm_wB); (first | exact rfl | exact lm_arB (by omega) | exact lm_arM (by omega)); omega)
    | ((with_reducible apply lm_sAl); (first | exact rfl | exact lm_arB (by omega) | exact lm_arM (by omega)); omega)
    | ((with_reducible apply lm_iW); decide))
        refine lm_cV e ?_
        repeat (first
    | ((with_reducible apply lm_sI); exact rfl)
    | ((with_reducible apply lm_sR); exact rfl)
    | ((with_reducible apply lm_sS); exact rfl; exact rfl)
    | ((with_reducible apply lm_sL); exact rfl)
    | ((with_reducible apply lm_sP); exact rfl; exact rfl)
    | ((with_reducible apply lm_sPL); exact rfl; exact rfl)
    | ((with_reducible apply lm_sAA); exact rfl; first | exact rfl | exact lm_roO (by omega) | exact lm_roM (by omega))
    | ((with_reducible apply lm_sI); exact lm_fpL (by omega))
    | ((with_reducible apply lm_sR); exact lm_fpB (by omega))
    | ((with_reducible apply lm_sP); exact lm_fpL (by omega); exact rfl)
    | ((with_reducible apply lm_sS); exact lm_ocO (by omega); exact rfl)
    | ((with_reducible apply lm_sA); exact rfl; omega)
    | ((with_reducible apply lm_sJ); exact rfl; omega)
    | ((with_reducible apply lm_sB); (first | exact rfl | exact lm_arB (by omega) | exact lm_arM (by omega)); omega)
    | ((with_reducible apply lm_wA); exact rfl; omega)
    | ((with_reducible apply lm_wJ); exact rfl; omega)
    | ((with_reducible apply lm_wB); (first | exact rfl | exact lm_arB (by omega) | exact lm_arM (by omega)); omega)
    | ((with_reducible apply lm_sAl); (first | exact rfl | exact lm_arB (by omega) | exact lm_arM (by omega)); omega)
    | ((with_reducible apply lm_iW); decide))
        exact rfl
  · rw [if_neg c]
    refine ⟨_, _, ?_, ⟨?_, ?_, lm_u_eq, lm_u_eq, ?_, ?_⟩, f1⟩
    · refine lm_e69_30 ?_
      unfold lm_q69_30
      repeat (first
    | ((with_reducible apply lm_sI); exact rfl)
    | ((with_reducible apply lm_sR); exact rfl)
    | ((with_reducible apply lm_sS); exact rfl; exact rfl)
    | ((with_reducible apply lm_sL); exact rfl)
    | ((with_reducible apply lm_sP); exact rfl; exact rfl)
    | ((with_reducible apply lm_sPL); exact rfl; exact rfl)
    | ((with_reducible apply lm_sAA); exact rfl; first | exact rfl | exact lm_roO (by omega) | exact lm_roM (by omega))
    | ((with_reducible apply lm_sI); exact lm_fpL (by omega))
    | ((with_reducible apply lm_sR); exact lm_fpB (by omega))
    | ((with_reducible apply lm_sP); exact lm_fpL (by omega); exact rfl)
    | ((with_reducible apply lm_sS); exact lm_ocO (by omega); exact rfl)
    | ((with_reducible apply lm_sA); exact rfl; omega)
    | ((with_reducible apply lm_sJ); exact rfl; omega)
    | ((with_reducible apply lm_sB); (first | exact rfl | exact lm_arB (by omega) | exact lm_arM (by omega)); omega)
    | ((with_reducible apply lm_wA); exact rfl; omega)
    | ((with_reducible apply lm_wJ); exact rfl; omega)
    | ((with_reducible apply lm_wB); (first | exact rfl | exact lm_arB (by omega) | exact lm_arM (by omega)); omega)
    | ((with_reducible apply lm_sAl); (first | exact rfl | exact lm_arB (by omega) | exact lm_arM (by omega)); omega)
    | ((with_reducible apply lm_iW); decide))
      simp only [Nat.reduceDiv, Nat.reduceMod, lm_u_eq, h2, h3, h4, lm_K1, lm_oo]
      rw [lm_u_ne (by decide), h2]
      refine lm_neT (by omega) (by omega) c ?_
      exact rfl
    · rw [lm_u_ne (by decide)]; exact h1
    · rw [lm_u_ne (by decide)]; exact h2
    · rw [lm_u_row (by decide)]; exact h5
    · rw [lm_u_row (by decide)]; exact h6
/-- put -/
theorem lm_u69 {v : Int32} (hr : lm_kr k r) (hf : h.1 < r) (hS : lm_HS m n k r h) : lm_RH x m n k r (lm_hp (lm_tb m n) k r v h) none (lm_cal sc (d + 3) 69 [.ref 203, .int v] (lm_w m n x)) := by
  obtain ⟨r1, r2, r3⟩ := hr
  obtain ⟨h1, h2, h3, h4, h5, h6⟩ := hS
  by_cases ck : 6 < k
  · have e1 : lm_u n 223 (h.1 / 8) (n 223 (h.1 / 8) ^^^ (((Int32.toInt64 v) &&& (Int64.ofNat 255)) <<< ((Int32.toInt64 (Int32.ofNat (8 * (h.1 % 8)))) &&& 63))) 223 = lm_flp h.2.2.1 h.1 v := by rw [lm_flp_u, h5]
    obtain ⟨m', n', e, g1, g2⟩ := lm_l69 (sc := sc) (d := d) (m := m) (n := lm_u n 223 (h.1 / 8) (n 223 (h.1 / 8) ^^^ (((Int32.toInt64 v) &&& (Int64.ofNat 255)) <<< ((Int32.toInt64 (Int32.ofNat (8 * (h.1 % 8)))) &&& 63)))) (x := x) (m0 := m) (n0 := n) (t := h.2.1) (f := h.1) ⟨r1, r2, r3⟩ hf h1 h2 h3 (by rw [lm_u_row (by decide)]; exact h4) e1 h6 ⟨fun _ _ _ => rfl, fun _ _ _ _ => rfl, fun q a b c d e => lm_u_row b⟩
    refine ⟨m', n', ?_, ?_, g2⟩
    · refine lm_cal_of (Y := lm_m69) rfl rfl (lm_e69_0 ?_)
      unfold lm_q69_0
      repeat (first
    | ((with_reducible apply lm_sI); exact rfl)
    | ((with_reducible apply lm_sR); exact rfl)
    | ((with_reducible apply lm_sS); exact rfl; exact rfl)
    | ((with_reducible apply lm_sL); exact rfl)
    | ((with_reducible apply lm_sP); exact rfl; exact rfl)
    | ((with_reducible apply lm_sPL); exact rfl; exact rfl)
    | ((with_reducible apply lm_sAA); exact rfl; first | exact rfl | exact lm_roO (by omega) | exact lm_roM (by omega))
    | ((with_reducible apply lm_sI); exact lm_fpL (by omega))
    | ((with_reducible apply lm_sR); exact lm_fpB (by omega))
    | ((with_reducible apply lm_sP); exact lm_fpL (by omega); exact rfl)
    | ((with_reducible apply lm_sS); exact lm_ocO (by omega); exact rfl)
    | ((with_reducible apply lm_sA); exact rfl; omega)
    | ((with_reducible apply lm_sJ); exact rfl; omega)
    | ((with_reducible apply lm_sB); (first | exact rfl | exact lm_arB (by omega) | exact lm_arM (by omega)); omega)
    | ((with_reducible apply lm_wA); exact rfl; omega)
    | ((with_reducible apply lm_wJ); exact rfl; omega)
    | ((with_reducible apply lm_wB); (first | exact rfl | exact lm_arB (by omega) | exact lm_arM (by omega)); omega)
    | ((with_reducible apply lm_sAl); (first | exact rfl | exact lm_arB (by omega) | exact lm_arM (by omega)); omega)
    | ((with_reducible apply lm_iW); decide))
      refine lm_cI (lm_u148 (d := d + 1) h1 r1) ?_
      rw [decide_eq_true ck]
      refine lm_iF (show ¬ (1 : Int32) = 0 by decide) ?_
      repeat (first
    | ((with_reducible apply lm_sI); exact rfl)
    | ((with_reducible apply lm_sR); exact rfl)
    | ((with_reducible apply lm_sS); exact rfl; exact rfl)
    | ((with_reducible apply lm_sL); exact rfl)
    | ((with_reducible apply lm_sP); exact rfl; exact rfl)
    | ((with_reducible apply lm_sPL); exact rfl; exact rfl)
    | ((with_reducible apply lm_sAA); exact rfl; first | exact rfl | exact lm_roO (by omega) | exact lm_roM (by omega))
    | ((with_reducible apply lm_sI); exact lm_fpL (by omega))
    | ((with_reducible apply lm_sR); exact lm_fpB (by omega))
    | ((with_reducible apply lm_sP); exact lm_fpL (by omega); exact rfl)
    | ((with_reducible apply lm_sS); exact lm_ocO (by omega); exact rfl)
    | ((with_reducible apply lm_sA); exact rfl; omega)
    | ((with_reducible apply lm_sJ); exact rfl; omega)
    | ((with_reducible apply lm_sB); (first | exact rfl | exact lm_arB (by omega) | exact lm_arM (by omega)); omega)
    | ((with_reducible apply lm_wA); exact rfl; omega)
    | ((with_reducible apply lm_wJ); exact rfl; omega)
    | ((with_reducible apply lm_wB); (first | exact rfl | exact lm_arB (by omega) | exact lm_arM (by omega)); omega)
    | ((with_reducible apply lm_sAl); (first | exact rfl | exact lm_arB (by omega) | exact lm_arM (by omega)); omega)
    | ((with_reducible apply lm_iW); decide))
      simp only [Nat.reduceDiv, Nat.reduceMod, h3]
      refine lm_cV (lm_u153 (d := d + 1) (by omega)) ?_
      exact e
    · unfold lm_hp lm_hS lm_hB
      rw [if_pos ck, if_pos ck]
      exact g1
  · have hf2 : h.1 < 128 := by have := r3 (by omega); omega
    obtain ⟨m', n', e, g1, g2⟩ := lm_l69 (sc := sc) (d := d) (m := lm_u m 227 h.1 (lm_b8 v)) (n := n) (x := x) (m0 := m) (n0 := n) (t := h.2.1) (f := h.1) (b := fun i => if i = h.1 then lm_b8 v else h.2.2.2 i) ⟨r1, r2, r3⟩ hf (by rw [lm_u_row (by decide)]; exact h1) (by rw [lm_u_row (by decide)]; exact h2) (by rw [lm_u_row (by decide)]; exact h3) h4 h5 (by
      funext i
      rw [← h6]
      unfold lm_u
      by_cases c : i = h.1
      · rw [if_pos ⟨rfl, c⟩, if_pos c]
      · rw [if_neg (fun g => c g.2), if_neg c]) ⟨fun q a b => lm_u_row b, fun j _ _ _ => lm_u_ne (by omega), fun _ _ _ _ _ _ => rfl⟩
    refine ⟨m', n', ?_, ?_, g2⟩
    · refine lm_cal_of (Y := lm_m69) rfl rfl (lm_e69_0 ?_)
      unfold lm_q69_0
      repeat (first
    | ((with_reducible apply lm_sI); exact rfl)
    | ((with_reducible apply lm_sR); exact rfl)
    | ((with_reducible apply lm_sS); exact rfl; exact rfl)
    | ((with_reducible apply lm_sL); exact rfl)
    | ((with_reducible apply lm_sP); exact rfl; exact rfl)
    | ((with_reducible apply lm_sPL); exact rfl; exact rfl)
    | ((with_reducible apply lm_sAA); exact rfl; first | exact rfl | exact lm_roO (by omega) | exact lm_roM (by omega))
    | ((with_reducible apply lm_sI); exact lm_fpL (by omega))
    | ((with_reducible apply lm_sR); exact lm_fpB (by omega))
    | ((with_reducible apply lm_sP); exact lm_fpL (by omega); exact rfl)
    | ((with_reducible apply lm_sS); exact lm_ocO (by omega); exact rfl)
    | ((with_reducible apply lm_sA); exact rfl; omega)
    | ((with_reducible apply lm_sJ); exact rfl; omega)
    | ((with_reducible apply lm_sB); (first | exact rfl | exact lm_arB (by omega) | exact lm_arM (by omega)); omega)
    | ((with_reducible apply lm_wA); exact rfl; omega)
    | ((with_reducible apply lm_wJ); exact rfl; omega)
    | ((with_reducible apply lm_wB); (first | exact rfl | exact lm_arB (by omega) | exact lm_arM (by omega)); omega)
    | ((with_reducible apply lm_sAl); (first | exact rfl | exact lm_arB (by omega) | exact lm_arM (by omega)); omega)
    | ((with_reducible apply lm_iW); decide))
      refine lm_cI (lm_u148 (d := d + 1) h1 r1) ?_
      rw [decide_eq_false ck]
      refine lm_iT (show (0 : Int32) = 0 by decide) ?_
      repeat (first
    | ((with_reducible apply lm_sI); exact rfl)
    | ((with_reducible apply lm_sR); exact rfl)
    | ((with_reducible apply lm_sS); exact rfl; exact rfl)
    | ((with_reducible apply lm_sL); exact rfl)
    | ((with_reducible apply lm_sP); exact rfl; exact rfl)
    | ((with_reducible apply lm_sPL); exact rfl; exact rfl)
    | ((with_reducible apply lm_sAA); exact rfl; first | exact rfl | exact lm_roO (by omega) | exact lm_roM (by omega))
    | ((with_reducible apply lm_sI); exact lm_fpL (by omega))
    | ((with_reducible apply lm_sR); exact lm_fpB (by omega))
    | ((with_reducible apply lm_sP); exact lm_fpL (by omega); exact rfl)
    | ((with_reducible apply lm_sS); exact lm_ocO (by omega); exact rfl)
    | ((with_reducible apply lm_sA); exact rfl; omega)
    | ((with_reducible apply lm_sJ); exact rfl; omega)
    | ((with_reducible apply lm_sB); (first | exact rfl | exact lm_arB (by omega) | exact lm_arM (by omega)); omega)
    | ((with_reducible apply lm_wA); exact rfl; omega)
    | ((with_reducible apply lm_wJ); exact rfl; omega)
    | ((with_reducible apply lm_wB); (first | exact rfl | exact lm_arB (by omega) | exact lm_arM (by omega)); omega)
    | ((with_reducible apply lm_sAl); (first | exact rfl | exact lm_arB (by omega) | exact lm_arM (by omega)); omega)
    | ((with_reducible apply lm_iW); decide))
      simp only [Nat.reduceDiv, Nat.reduceMod, h3]
      refine lm_wB (w := 128) rfl hf2 ?_
      exact e
    · unfold lm_hp lm_hS lm_hB
      rw [if_neg ck, if_neg ck]
      exact g1
end LMPU
