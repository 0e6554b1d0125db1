/-! ===== a block of the class's sponge ===== -/
theorem lm_ltm {a : Nat} (ha : a ≤ 1000000) : Int32.ofInt ((a : Int) - 1) < Int32.ofNat a := by
  rw [Int32.lt_iff_toInt_lt, ← lm_ofI, Int32.toInt_ofInt_of_le (by omega) (by omega), Int32.toInt_ofInt_of_le (by omega) (by omega)]
  omega
/-- the i-th word of a block, the lowest byte first: j bytes from the top -/
def lm_lw (b : Nat → Int32) (i : Nat) : Nat → Int64
  | 0 => Int64.ofNat 0
  | j + 1 => (lm_lw b i j <<< ((Int32.toInt64 (Int32.ofInt 8)) &&& 63)) ||| (Int32.toInt64 (lm_b8 (b (8 * i + 7 - j)) &&& (Int32.ofInt 255)))
theorem lm_sx (X B : BitVec 64) (s t : Nat) (h : t = 8 + s) : ((X <<< 8) ^^^ B) <<< s = (X <<< t) ^^^ (B <<< s) := by
  rw [BitVec.shiftLeft_xor_distrib, ← BitVec.shiftLeft_add, h]
theorem lm_lwb (S B0 B1 B2 B3 B4 B5 B6 B7 : BitVec 64) : S ^^^ ((((((((((((((((0#64 <<< 8) ^^^ B7) <<< 8) ^^^ B6) <<< 8) ^^^ B5) <<< 8) ^^^ B4) <<< 8) ^^^ B3) <<< 8) ^^^ B2) <<< 8) ^^^ B1) <<< 8) ^^^ B0) = (((((((S ^^^ (B0 <<< 0)) ^^^ (B1 <<< 8)) ^^^ (B2 <<< 16)) ^^^ (B3 <<< 24)) ^^^ (B4 <<< 32)) ^^^ (B5 <<< 40)) ^^^ (B6 <<< 48)) ^^^ (B7 <<< 56) := by
  rw [lm_sx _ B1 8 16 rfl, lm_sx _ B2 16 24 rfl, lm_sx _ B3 24 32 rfl, lm_sx _ B4 32 40 rfl, lm_sx _ B5 40 48 rfl, lm_sx _ B6 48 56 rfl, lm_sx _ B7 56 64 rfl]
  rw [BitVec.zero_shiftLeft, BitVec.zero_xor, BitVec.shiftLeft_zero]
  simp only [BitVec.xor_assoc]
  generalize B1 <<< 8 = c1
  generalize B2 <<< 16 = c2
  generalize B3 <<< 24 = c3
  generalize B4 <<< 32 = c4
  generalize B5 <<< 40 = c5
  generalize B6 <<< 48 = c6
  generalize B7 <<< 56 = c7
  ac_rfl
theorem lm_lwx (S B0 B1 B2 B3 B4 B5 B6 B7 : Int64) : S ^^^ ((((((((((((((((Int64.ofNat 0 <<< ((Int32.toInt64 (Int32.ofInt 8)) &&& 63)) ^^^ B7) <<< ((Int32.toInt64 (Int32.ofInt 8)) &&& 63)) ^^^ B6) <<< ((Int32.toInt64 (Int32.ofInt 8)) &&& 63)) ^^^ B5) <<< ((Int32.toInt64 (Int32.ofInt 8)) &&& 63)) ^^^ B4) <<< ((Int32.toInt64 (Int32.ofInt 8)) &&& 63)) ^^^ B3) <<< ((Int32.toInt64 (Int32.ofInt 8)) &&& 63)) ^^^ B2) <<< ((Int32.toInt64 (Int32.ofInt 8)) &&& 63)) ^^^ B1) <<< ((Int32.toInt64 (Int32.ofInt 8)) &&& 63)) ^^^ B0) = (((((((S ^^^ (B0 <<< ((Int32.toInt64 (Int32.ofNat (8 * 0))) &&& 63))) ^^^ (B1 <<< ((Int32.toInt64 (Int32.ofNat (8 * 1))) &&& 63))) ^^^ (B2 <<< ((Int32.toInt64 (Int32.ofNat (8 * 2))) &&& 63))) ^^^ (B3 <<< ((Int32.toInt64 (Int32.ofNat (8 * 3))) &&& 63))) ^^^ (B4 <<< ((Int32.toInt64 (Int32.ofNat (8 * 4))) &&& 63))) ^^^ (B5 <<< ((Int32.toInt64 (Int32.ofNat (8 * 5))) &&& 63))) ^^^ (B6 <<< ((Int32.toInt64 (Int32.ofNat (8 * 6))) &&& 63))) ^^^ (B7 <<< ((Int32.toInt64 (Int32.ofNat (8 * 7))) &&& 63)) := by
  apply Int64.toBitVec_inj.mp
  show S.toBitVec ^^^ ((((((((((((((((0#64 <<< 8) ^^^ B7.toBitVec) <<< 8) ^^^ B6.toBitVec) <<< 8) ^^^ B5.toBitVec) <<< 8) ^^^ B4.toBitVec) <<< 8) ^^^ B3.toBitVec) <<< 8) ^^^ B2.toBitVec) <<< 8) ^^^ B1.toBitVec) <<< 8) ^^^ B0.toBitVec) = (((((((S.toBitVec ^^^ (B0.toBitVec <<< 0)) ^^^ (B1.toBitVec <<< 8)) ^^^ (B2.toBitVec <<< 16)) ^^^ (B3.toBitVec <<< 24)) ^^^ (B4.toBitVec <<< 32)) ^^^ (B5.toBitVec <<< 40)) ^^^ (B6.toBitVec <<< 48)) ^^^ (B7.toBitVec <<< 56)
  exact lm_lwb _ _ _ _ _ _ _ _ _
theorem lm_flpi {S : Nat → Int64} {i c : Nat} {v : Int32} (hc : c < 8) : lm_flp S (8 * i + c) v = fun j => if j = i then S j ^^^ (((Int32.toInt64 v) &&& (Int64.ofNat 255)) <<< ((Int32.toInt64 (Int32.ofNat (8 * c))) &&& 63)) else S j := by
  funext j
  unfold lm_flp
  rw [show (8 * i + c) / 8 = i by omega, show (8 * i + c) % 8 = c by omega]
theorem lm_fls8 {S : Nat → Int64} {b : Nat → Int32} {i : Nat} : lm_fls (fun i => lm_b8 (b i)) 8 (8 * i) S = fun j => if j = i then S j ^^^ lm_lw b i 8 else S j := by
  show lm_flp (lm_flp (lm_flp (lm_flp (lm_flp (lm_flp (lm_flp (lm_flp S (8 * i + 0) (lm_b8 (b (8 * i + 0)))) (8 * i + 1) (lm_b8 (b (8 * i + 1)))) (8 * i + 2) (lm_b8 (b (8 * i + 2)))) (8 * i + 3) (lm_b8 (b (8 * i + 3)))) (8 * i + 4) (lm_b8 (b (8 * i + 4)))) (8 * i + 5) (lm_b8 (b (8 * i + 5)))) (8 * i + 6) (lm_b8 (b (8 * i + 6)))) (8 * i + 7) (lm_b8 (b (8 * i + 7))) = _
  rw [lm_flpi (c := 0) (by decide), lm_flpi (c := 1) (by decide), lm_flpi (c := 2) (by decide), lm_flpi (c := 3) (by decide), lm_flpi (c := 4) (by decide), lm_flpi (c := 5) (by decide), lm_flpi (c := 6) (by decide), lm_flpi (c := 7) (by decide)]
  funext j
  by_cases c : j = i
  · simp only [if_pos c]
    rw [← lm_lwx]
    unfold lm_lw lm_lw lm_lw lm_lw lm_lw lm_lw lm_lw lm_lw lm_lw
    simp only [lm_and255, lm_orx]
    rfl
  · simp only [if_neg c]
theorem lm_flsw {S : Nat → Int64} {b : Nat → Int32} : ∀ w, lm_fls (fun i => lm_b8 (b i)) (8 * w) 0 S = fun j => if j < w then S j ^^^ lm_lw b j 8 else S j := by
  intro w
  induction w with
  | zero => funext j; rw [if_neg (by omega)]; rfl
  | succ w ih =>
    rw [show 8 * (w + 1) = 8 * w + 8 by omega, lm_fls_add, Nat.zero_add, lm_fls8, ih]
    funext j
    show (if j = w then (if j < w then S j ^^^ lm_lw b j 8 else S j) ^^^ lm_lw b w 8 else (if j < w then S j ^^^ lm_lw b j 8 else S j)) = if j < w + 1 then S j ^^^ lm_lw b j 8 else S j
    by_cases c : j = w
    · rw [if_pos c, if_neg (by omega), if_pos (by omega), c]
    · rw [if_neg c]
      by_cases c2 : j < w
      · rw [if_pos c2, if_pos (by omega)]
      · rw [if_neg c2, if_neg (by omega)]
section LMTB
variable {sc : lm_H} {d : Nat} {m : lm_MI} {x : lm_H × Nat × Nat} {n0 : lm_ML} {zs : List Int64} {r w : Nat} {S : Nat → Int64}
theorem lm_l206b {n : lm_ML} {i : Nat} (hi : i < 21) {R : Except Nat lm_R × lm_S} (K : lm_rn sc d lm_m206.2.2.2.2.1 (lm_reg lm_m206.2.2.2.2.2) (2, [(0, .ref 5), (1, .int (Int32.ofNat (i + 1)))], []) (lm_w m (lm_u n 8 i (n 8 i ^^^ lm_lw (m 6) i 8)) x) = some R) : ∀ k j, j + k = 8 → lm_rn sc d lm_m206.2.2.2.2.1 (lm_reg lm_m206.2.2.2.2.2) (24, [(0, .ref 5), (1, .int (Int32.ofNat i)), (2, .long (lm_lw (m 6) i j)), (4, .int (Int32.ofInt (((8 * i + (8 - j) : Nat) : Int) - 1)))], []) (lm_w m n x) = some R := by
  intro k
  induction k with
  | zero =>
    intro j hj
    have hj : j = 8 := hj
    subst hj
    refine lm_e206_24 ?_
    unfold lm_q206_24
    rw [lm_K8, lm_om, show 8 * i + (8 - 8) = 8 * i by omega]
    refine lm_iT (lm_ltm (by omega)) ?_
    repeat (first
    | ((with_reducible apply lm_sI); exact rfl)
    | ((with_reducible apply lm_sR); exact rfl)
    | ((with_reducible apply lm_sS); exact rfl; exact rfl)
    | ((with_reducible apply lm_sL); exact rfl)
    | ((with_reducible apply lm_sP); exact rfl; exact rfl)
    | ((with_reducible apply lm_sPL); exact rfl; exact rfl)
    | ((with_reducible apply lm_sAA); exact rfl; first | exact rfl | exact lm_roO (by omega) | exact lm_roM (by omega))
    | ((with_reducible apply lm_sI); exact lm_fpL (by omega))
    | ((with_reducible apply lm_sR); exact lm_fpB (by omega))
    | ((with_reducible apply lm_sP); exact lm_fpL (by omega); exact rfl)
    | ((with_reducible apply lm_sS); exact lm_ocO (by omega); exact rfl)
    | ((with_reducible apply lm_sA); exact rfl; omega)
    | ((with_reducible apply lm_sJ); exact rfl; omega)
    | ((with_reducible apply lm_sB); (first | exact rfl | exact lm_arB (by omega) | exact lm_arM (by omega)); omega)
    | ((with_reducible apply lm_wA); exact rfl; omega)
    | ((with_reducible apply lm_wJ); exact rfl; omega)
    | ((with_reducible apply lm_wB); (first | exact rfl | exact lm_arB (by omega) | exact lm_arM (by omega)); omega)
    | ((with_reducible apply lm_sAl); (first | exact rfl | exact lm_arB (by omega) | exact lm_arM (by omega)); omega)
    | ((with_reducible apply lm_iW); decide))
    rw [show Int32.ofNat i + Int32.ofInt 1 = Int32.ofNat (i + 1) from lm_oa i 1]
    exact K
  | succ k ih =>
    intro j hj
    have e1 : Int32.ofInt (((8 * i + (8 - j) : Nat) : Int) - 1) = Int32.ofNat (8 * i + 7 - j) := by
      rw [show (((8 * i + (8 - j) : Nat) : Int) - 1) = ((8 * i + 7 - j : Nat) : Int) by omega, lm_ofI]
    have e2 : Int32.ofNat (8 * i + 7 - j) + Int32.ofInt (-1) = Int32.ofInt (((8 * i + (8 - (j + 1)) : Nat) : Int) - 1) := by
      rw [← lm_ofI, ← Int32.ofInt_add]
      exact congrArg Int32.ofInt (by omega)
    refine lm_e206_24 ?_
    unfold lm_q206_24
    rw [e1, show Int32.ofInt 8 * Int32.ofNat i = Int32.ofNat (8 * i) by rw [lm_K8, lm_om]]
    refine lm_ltF (by omega) (by omega) (by omega) ?_
    repeat (first
    | ((with_reducible apply lm_sI); exact rfl)
    | ((with_reducible apply lm_sR); exact rfl)
    | ((with_reducible apply lm_sS); exact rfl; exact rfl)
    | ((with_reducible apply lm_sL); exact rfl)
    | ((with_reducible apply lm_sP); exact rfl; exact rfl)
    | ((with_reducible apply lm_sPL); exact rfl; exact rfl)
    | ((with_reducible apply lm_sAA); exact rfl; first | exact rfl | exact lm_roO (by omega) | exact lm_roM (by omega))
    | ((with_reducible apply lm_sI); exact lm_fpL (by omega))
    | ((with_reducible apply lm_sR); exact lm_fpB (by omega))
    | ((with_reducible apply lm_sP); exact lm_fpL (by omega); exact rfl)
    | ((with_reducible apply lm_sS); exact lm_ocO (by omega); exact rfl)
    | ((with_reducible apply lm_sA); exact rfl; omega)
    | ((with_reducible apply lm_sJ); exact rfl; omega)
    | ((with_reducible apply lm_sB); (first | exact rfl | exact lm_arB (by omega) | exact lm_arM (by omega)); omega)
    | ((with_reducible apply lm_wA); exact rfl; omega)
    | ((with_reducible apply lm_wJ); exact rfl; omega)
    | ((with_reducible apply lm_wB); (first | exact rfl | exact lm_arB (by omega) | exact lm_arM (by omega)); omega)
    | ((with_reducible apply lm_sAl); (first | exact rfl | exact lm_arB (by omega) | exact lm_arM (by omega)); omega)
    | ((with_reducible apply lm_iW); decide))
    rw [e2]
    exact ih (j + 1) (by omega)
theorem lm_l206w (hs : sc[6]? = some (.inr (.inl zs))) (hz : zs.length = 24) (hr : m 5 1 = Int32.ofNat (8 * w)) (hw : w ≤ 21) : ∀ k i (n : lm_ML), i + k = w → n 8 = (fun j => if j < i then S j ^^^ lm_lw (m 6) j 8 else S j) → lm_fkC n0 n → lm_RKC m x n0 (lm_kF lm_trt (fun t => zs.getD t 0) 24 0 (fun j => if j < w then S j ^^^ lm_lw (m 6) j 8 else S j)) (lm_rn sc (d + 2) lm_m206.2.2.2.2.1 (lm_reg lm_m206.2.2.2.2.2) (2, [(0, .ref 5), (1, .int (Int32.ofNat i))], []) (lm_w m n x)) := by
  intro k
  induction k with
  | zero =>
    intro i n hi h1 h2
    have hi : i = w := hi
    subst hi
    obtain ⟨n', e, f1, f2⟩ := lm_u212 (sc := sc) (d := d) (m := m) (x := x) (n := n) hs hz
    rw [h1] at f1
    refine ⟨n', ?_, f1, fun q a b => (f2 q a b).trans (h2 q a b)⟩
    refine lm_e206_2 ?_
    unfold lm_q206_2
    repeat (first
    | ((with_reducible apply lm_sI); exact rfl)
    | ((with_reducible apply lm_sR); exact rfl)
    | ((with_reducible apply lm_sS); exact rfl; exact rfl)
    | ((with_reducible apply lm_sL); exact rfl)
    | ((with_reducible apply lm_sP); exact rfl; exact rfl)
    | ((with_reducible apply lm_sPL); exact rfl; exact rfl)
    | ((with_reducible apply lm_sAA); exact rfl; first | exact rfl | exact lm_roO (by omega) | exact lm_roM (by omega))
    | ((with_reducible apply lm_sI); exact lm_fpL (by omega))
    | ((with_reducible apply lm_sR); exact lm_fpB (by omega))
    | ((with_reducible apply lm_sP); exact lm_fpL (by omega); exact rfl)
    | ((with_reducible apply lm_sS); exact lm_ocO (by omega); exact rfl)
    | ((with_reducible apply lm_sA); exact rfl; omega)
    | ((with_reducible apply lm_sJ); exact rfl; omega)
    | ((with_reducible apply lm_sB); (first | exact rfl | exact lm_arB (by omega) | exact lm_arM (by omega)); omega)
    | ((with_reducible apply lm_wA); exact rfl; omega)
    | ((with_reducible apply lm_wJ); exact rfl; omega)
    | ((with_reducible apply lm_wB); (first | exact rfl | exact lm_arB (by omega) | exact lm_arM (by omega)); omega)
    | ((with_reducible apply lm_sAl); (first | exact rfl | exact lm_arB (by omega) | exact lm_arM (by omega)); omega)
    | ((with_reducible apply lm_iW); decide))
    simp only [Nat.reduceDiv, Nat.reduceMod, hr]
    rw [lm_K8, lm_om]
    refine lm_geT (by omega) (by omega) (by omega) ?_
    repeat (first
    | ((with_reducible apply lm_sI); exact rfl)
    | ((with_reducible apply lm_sR); exact rfl)
    | ((with_reducible apply lm_sS); exact rfl; exact rfl)
    | ((with_reducible apply lm_sL); exact rfl)
    | ((with_reducible apply lm_sP); exact rfl; exact rfl)
    | ((with_reducible apply lm_sPL); exact rfl; exact rfl)
    | ((with_reducible apply lm_sAA); exact rfl; first | exact rfl | exact lm_roO (by omega) | exact lm_roM (by omega))
    | ((with_reducible apply lm_sI); exact lm_fpL (by omega))
    | ((with_reducible apply lm_sR); exact lm_fpB (by omega))
    | ((with_reducible apply lm_sP); exact lm_fpL (by omega); exact rfl)
    | ((with_reducible apply lm_sS); exact lm_ocO (by omega); exact rfl)
    | ((with_reducible apply lm_sA); exact rfl; omega)
    | ((with_reducible apply lm_sJ); exact rfl; omega)
    | ((with_reducible apply lm_sB); (first | exact rfl | exact lm_arB (by omega) | exact lm_arM (by omega)); omega)
    | ((with_reducible apply lm_wA); exact rfl; omega)
    | ((with_reducible apply lm_wJ); exact rfl; omega)
    | ((with_reducible apply lm_wB); (first | exact rfl | exact lm_arB (by omega) | exact lm_arM (by omega)); omega)
    | ((with_reducible apply lm_sAl); (first | exact rfl | exact lm_arB (by omega) | exact lm_arM (by omega)); omega)
    | ((with_reducible apply lm_iW); decide))
    refine lm_cV e ?_
    exact rfl
  | succ k ih =>
    intro i n hi h1 h2
    obtain ⟨n', e, f1, f2⟩ := ih (i + 1) (lm_u n 8 i (n 8 i ^^^ lm_lw (m 6) i 8)) (by omega) (by
      funext j
      by_cases c : j = i
      · rw [c, lm_u_eq, if_pos (by omega), h1]
        show (if i < i then _ else _) ^^^ _ = _
        rw [if_neg (by omega)]
      · rw [lm_u_ne (fun g => c g.2), h1]
        show (if j < i then _ else _) = _
        by_cases c2 : j < i
        · rw [if_pos c2, if_pos (by omega)]
        · rw [if_neg c2, if_neg (by omega)]) (h2.u (Or.inl rfl))
    refine ⟨n', ?_, f1, f2⟩
    refine lm_e206_2 ?_
    unfold lm_q206_2
    repeat (first
    | ((with_reducible apply lm_sI); exact rfl)
    | ((with_reducible apply lm_sR); exact rfl)
    | ((with_reducible apply lm_sS); exact rfl; exact rfl)
    | ((with_reducible apply lm_sL); exact rfl)
    | ((with_reducible apply lm_sP); exact rfl; exact rfl)
    | ((with_reducible apply lm_sPL); exact rfl; exact rfl)
    | ((with_reducible apply lm_sAA); exact rfl; first | exact rfl | exact lm_roO (by omega) | exact lm_roM (by omega))
    | ((with_reducible apply lm_sI); exact lm_fpL (by omega))
    | ((with_reducible apply lm_sR); exact lm_fpB (by omega))
    | ((with_reducible apply lm_sP); exact lm_fpL (by omega); exact rfl)
    | ((with_reducible apply lm_sS); exact lm_ocO (by omega); exact rfl)
    | ((with_reducible apply lm_sA); exact rfl; omega)
    | ((with_reducible apply lm_sJ); exact rfl; omega)
    | ((with_reducible apply lm_sB); (first | exact rfl | exact lm_arB (by omega) | exact lm_arM (by omega)); omega)
    | ((with_reducible apply lm_wA); exact rfl; omega)
    | ((with_reducible apply lm_wJ); exact rfl; omega)
    | ((with_reducible apply lm_wB); (first | exact rfl | exact lm_arB (by omega) | exact lm_arM (by omega)); omega)
    | ((with_reducible apply lm_sAl); (first | exact rfl | exact lm_arB (by omega) | exact lm_arM (by omega)); omega)
    | ((with_reducible apply lm_iW); decide))
    simp only [Nat.reduceDiv, Nat.reduceMod, hr]
    rw [lm_K8, lm_om]
    refine lm_geF (by omega) (by omega) (by omega) ?_
    rw [show Int32.ofNat (8 * i) + Int32.ofInt 7 = Int32.ofInt (((8 * i + (8 - 0) : Nat) : Int) - 1) by rw [← lm_ofI, ← Int32.ofInt_add]; exact congrArg Int32.ofInt (by omega)]
    exact lm_l206b (d := d + 2) (by omega) e 8 0 rfl
theorem lm_u206 {n : lm_ML} (hs : sc[6]? = some (.inr (.inl zs))) (hz : zs.length = 24) (hr : m 5 1 = Int32.ofNat (8 * w)) (hw : w ≤ 21) : lm_RKC m x n (lm_kF lm_trt (fun t => zs.getD t 0) 24 0 (lm_fls (fun i => lm_b8 (m 6 i)) (8 * w) 0 (n 8))) (lm_cal sc (d + 3) 206 [.ref 5] (lm_w m n x)) := by
  obtain ⟨n', e, f1, f2⟩ := lm_l206w (sc := sc) (d := d) (m := m) (x := x) (n0 := n) (S := n 8) hs hz hr hw w 0 n (by omega) (by funext j; rw [if_neg (by omega)]) (fun _ _ _ => rfl)
  rw [← lm_flsw] at f1
  refine ⟨n', ?_, f1, f2⟩
  refine lm_cal_of (Y := lm_m206) rfl rfl (lm_e206_0 ?_)
  unfold lm_q206_0
  exact e
end LMTB
