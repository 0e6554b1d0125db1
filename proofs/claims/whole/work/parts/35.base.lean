/-! ===== FIRST CONTRACTS ===== -/
theorem lm_ofI (k : Nat) : Int32.ofInt (k : Int) = Int32.ofNat k := by
  apply Int32.toBitVec_inj.mp
  show BitVec.ofInt 32 (k : Int) = BitVec.ofNat 32 k
  exact BitVec.ofInt_natCast ..
theorem lm_oa (a k : Nat) : Int32.ofNat a + Int32.ofInt (k : Int) = Int32.ofNat (a + k) := by
  rw [lm_ofI, ← Int32.ofNat_add]
theorem lm_nar_b8 (x : Int32) : vp_nar .byte (lm_b8 x) = lm_b8 x := by
  show (x.toInt8.toInt32).toInt8.toInt32 = x.toInt8.toInt32
  simp
/-- four bytes of an int, the highest first, laid at a -/
def lm_pi (v : Int32) (xs : List Int32) (a : Nat) : List Int32 := (((xs.set a (lm_b8 (v >>> 24))).set (a + 1) (lm_b8 (v >>> 16))).set (a + 2) (lm_b8 (v >>> 8))).set (a + 3) (lm_b8 v)
theorem lm_t131 {sc h : lm_H} {s : Nat × Nat} {d q a : Nat} {xs : List Int32} {v : Int32} (hq : h[q]? = some (.inl (1, xs))) (hb : q < lm_B) (ha : a + 4 ≤ xs.length) (hn : xs.length ≤ 1000000) :
    lm_cal sc (d + 1) 131 [.int v, .ref q, .int (Int32.ofNat a)] (h, s) = some (.ok none, (h.set q (.inl (1, lm_pi v xs a)), s)) := by
  refine lm_cal_of (Y := lm_m131) rfl rfl (lm_e131_0 ?_)
  unfold lm_q131_0
  rw [show (Int32.ofNat a + Int32.ofInt 1) = Int32.ofNat (a + 1) from lm_oa a 1, show (Int32.ofNat a + Int32.ofInt 2) = Int32.ofNat (a + 2) from lm_oa a 2, show (Int32.ofNat a + Int32.ofInt 3) = Int32.ofNat (a + 3) from lm_oa a 3]
  rw [lm_bd_ok (lm_bast_ok hq hb (by omega) hn)]
  rw [lm_bd_ok (lm_bast_ok (lm_gs_eq hq _) hb (by simp only [List.length_set]; omega) (by simp only [List.length_set]; exact hn)), lm_ss]
  rw [lm_bd_ok (lm_bast_ok (lm_gs_eq hq _) hb (by simp only [List.length_set]; omega) (by simp only [List.length_set]; exact hn)), lm_ss]
  rw [lm_bd_ok (lm_bast_ok (lm_gs_eq hq _) hb (by simp only [List.length_set]; omega) (by simp only [List.length_set]; exact hn)), lm_ss]
  simp only [lm_nar_b8]
  rfl
theorem lm_if_t {c : Jvm.ClassFile.Cond} {x y : Int32} {a b : lm_M lm_R} (h : lm_cmp c x y) : lm_if c x y a b = a := by
  unfold lm_if
  exact if_pos h
theorem lm_if_f {c : Jvm.ClassFile.Cond} {x y : Int32} {a b : lm_M lm_R} (h : ¬ lm_cmp c x y) : lm_if c x y a b = b := by
  unfold lm_if
  exact if_neg h
theorem lm_when_t {p : Prop} {q : Decidable p} {a : lm_M lm_R} (h : p) : lm_when p q a = a := by
  unfold lm_when
  exact if_pos h
theorem lm_thr_ok {α : Type} {k : Nat} {h : lm_H} {s : Nat × Nat} (h1 : h.length + 1 < lm_B) (h2 : 1 ≤ s.1) (h3 : 6 ≤ s.2) : (lm_thr k : lm_M α) (h, s) = some (.error h.length, (h ++ [.inr (.inr (.inr (k, [])))], (s.1 - 1, s.2 - 6))) := by
  unfold lm_thr
  exact if_pos ⟨h1, h2, h3⟩
/-- checkRange: in range nothing happens -/
theorem lm_t132 {sc : lm_H} {σ : lm_S} {d : Nat} {v a b : Int32} (h1 : a ≤ v) (h2 : v ≤ b) : lm_cal sc (d + 1) 132 [.int v, .int a, .int b] σ = some (.ok none, σ) := by
  refine lm_cal_of (Y := lm_m132) rfl rfl (lm_e132_0 ?_)
  unfold lm_q132_0
  rw [lm_if_f (show ¬ lm_cmp .lt v a from Int32.not_lt.mpr h1), lm_if_t (show lm_cmp .le v b from h2)]
  rfl
theorem lm_t132e {sc h : lm_H} {s : Nat × Nat} {d : Nat} {v a b : Int32} (h0 : ¬ (a ≤ v ∧ v ≤ b)) (h1 : h.length + 1 < lm_B) (h2 : 1 ≤ s.1) (h3 : 6 ≤ s.2) : lm_cal sc (d + 1) 132 [.int v, .int a, .int b] (h, s) = some (.error h.length, (h ++ [.inr (.inr (.inr (13, [])))], (s.1 - 1, s.2 - 6))) := by
  refine lm_cal_of (Y := lm_m132) rfl rfl (lm_e132_0 ?_)
  unfold lm_q132_0
  by_cases ha : v < a
  · rw [lm_if_t (show lm_cmp .lt v a from ha)]
    exact lm_thr_ok h1 h2 h3
  · rw [lm_if_f (show ¬ lm_cmp .lt v a from ha), lm_if_f (show ¬ lm_cmp .le v b from fun hb => h0 ⟨Int32.not_lt.mp ha, hb⟩)]
    exact lm_thr_ok h1 h2 h3
/-- arraycopy of bytes -/
theorem lm_copyB {sc h : lm_H} {s : Nat × Nat} {p q a b n : Nat} {xs ys : List Int32} (hp : lm_cell sc h p = some (.inl (1, ys))) (hq : h[q]? = some (.inl (1, xs))) (hb : q < lm_B) (ha : a + n ≤ ys.length) (hc : b + n ≤ xs.length) (hy : ys.length ≤ 1000000) (hx : xs.length ≤ 1000000) :
    lm_copy sc p (Int32.ofNat a) q (Int32.ofNat b) (Int32.ofNat n) (h, s) = some (.ok (), (h.set q (.inl (1, lm_lay xs ys a b n)), s)) := by
  obtain ⟨a1, a2⟩ := lm_ix (a := a) (n := 1000001) (by omega) (by omega)
  obtain ⟨b1, b2⟩ := lm_ix (a := b) (n := 1000001) (by omega) (by omega)
  obtain ⟨n1, n2⟩ := lm_ix (a := n) (n := 1000001) (by omega) (by omega)
  unfold lm_copy
  rw [if_pos ⟨hb, a1, b1, n1⟩]
  dsimp only
  rw [hp, hq]
  dsimp only
  rw [a2, b2, n2, if_pos ⟨rfl, Or.inr rfl, ha, hc⟩]
/-- Bytes.become -/
theorem lm_t133 {sc h : lm_H} {s : Nat × Nat} {d o p q n : Nat} {z : Int32} {xs ys : List Int32} (ho : h[o]? = some (.inr (.inr (.inr (1, [.ref q, .int z]))))) (hp : lm_cell sc h p = some (.inl (1, ys))) (hq : h[q]? = some (.inl (1, xs))) (hob : o < lm_B) (hqb : q < lm_B) (hoq : q ≠ o) (ha : n ≤ ys.length) (hc : n ≤ xs.length) (hy : ys.length ≤ 1000000) (hx : xs.length ≤ 1000000) :
    lm_cal sc (d + 1) 133 [.ref o, .ref p, .int (Int32.ofNat n)] (h, s) = some (.ok none, ((h.set q (.inl (1, lm_lay xs ys 0 0 n))).set o (.inr (.inr (.inr (1, [.ref q, .int (Int32.ofNat n)])))), s)) := by
  refine lm_cal_of (Y := lm_m133) rfl rfl (lm_e133_0 ?_)
  unfold lm_q133_0
  rw [lm_bd_ok (lm_gR_ok ho hob rfl rfl)]
  rw [show Int32.ofInt 0 = Int32.ofNat 0 from lm_ofI 0, lm_bd_ok (lm_copyB hp hq hqb (by omega) (by omega) hy hx)]
  rw [lm_bd_ok (lm_putf_ok ((lm_gs_ne hoq _).trans ho) hob rfl rfl rfl)]
  rfl
