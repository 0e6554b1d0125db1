/-! ===== hashes of messages ===== -/
abbrev lm_CX : Type := lm_TB × (Nat → Int64) × (Nat → Int64) × (Nat → Int64)
def lm_cx (m : lm_MI) (n : lm_ML) : lm_CX := (lm_tb m n, n 215, n 217, n 218)
def lm_ms0 (C : lm_CX) (k : Nat) : lm_HV := (0, Int64.ofNat 0, lm_st0' C.2.1 C.2.2.1 C.2.2.2 k (fun _ => 0), fun _ => 0)
/-- the hash behind L bytes of a message -/
def lm_MS (C : lm_CX) (k : Nat) (G : Nat → Int32) (L : Nat) : lm_HV := lm_hps C.1 k (lm_rate k) G L 0 (lm_ms0 C k)
/-- a byte of the hash of a message -/
def lm_Hm (C : lm_CX) (k : Nat) (G : Nat → Int32) (L : Nat) (i : Nat) : Int32 := lm_ou C.1 k (lm_rate k) (lm_hf C.1 k (lm_rate k) (lm_MS C k G L)).2.2.1 i
theorem ln_hps_sh {T : lm_TB} {k r : Nat} {g G : Nat → Int32} : ∀ c a L (h : lm_HV), (∀ t, t < c → g (a + t) = G (L + t)) → lm_hps T k r g c a h = lm_hps T k r G c L h := by
  intro c
  induction c with
  | zero => intro a L h _; rfl
  | succ c ih =>
    intro a L h e
    show lm_hps T k r g c (a + 1) (lm_hp T k r (g a) h) = lm_hps T k r G c (L + 1) (lm_hp T k r (G L) h)
    have e0 := e 0 (by omega)
    rw [Nat.add_zero, Nat.add_zero] at e0
    rw [e0]
    refine ih (a + 1) (L + 1) _ fun t ht => ?_
    rw [Nat.add_assoc, Nat.add_assoc, Nat.add_comm 1 t]
    exact e (t + 1) (by omega)
section LMMS
variable {C : lm_CX} {k L l : Nat} {G G' : Nat → Int32}
theorem lm_MS_lt : (lm_MS C k G L).1 < lm_rate k := lm_hps_f _ _ _ (by have := lm_rate_pos k; show 0 < lm_rate k; omega)
theorem lm_MS_add : lm_MS C k G (L + l) = lm_hps C.1 k (lm_rate k) G l L (lm_MS C k G L) := by
  unfold lm_MS
  rw [lm_hps_add, Nat.zero_add]
theorem lm_MS_ext (h : ∀ i, i < L → G i = G' i) : lm_MS C k G L = lm_MS C k G' L := lm_hps_ext _ _ _ fun i _ hi => h i (by omega)
theorem lm_Hm_ext (h : ∀ i, i < L → G i = G' i) {i : Nat} : lm_Hm C k G L i = lm_Hm C k G' L i := by
  unfold lm_Hm
  rw [lm_MS_ext h]
end LMMS
theorem lm_i255 (v : Int32) : (Int32.toInt64 v) &&& (Int64.ofNat 255) = (Int32.toInt64 (lm_b8 v)) &&& (Int64.ofNat 255) := by
  apply Int64.toBitVec_inj.mp
  rw [Int64.toBitVec_and, Int64.toBitVec_and]
  have e : ∀ j, j < 64 → (Int64.ofNat 255).toBitVec.getLsbD j = decide (j < 8) := by decide
  have s : ∀ u : Int32, (Int32.toInt64 u).toBitVec = u.toBitVec.signExtend 64 := fun u => rfl
  refine BitVec.eq_of_getLsbD_eq fun i hi => ?_
  rw [BitVec.getLsbD_and, BitVec.getLsbD_and, e i hi, s, s]
  by_cases c : i < 8
  · have h := congrArg (fun b => BitVec.getLsbD b i) (lm_b8_w v)
    simp only [BitVec.getLsbD_setWidth, c, decide_true, Bool.true_and] at h
    rw [BitVec.getLsbD_signExtend, BitVec.getLsbD_signExtend, if_pos (by omega), if_pos (by omega), h]
  · rw [decide_eq_false c, Bool.and_false, Bool.and_false]
theorem lm_hp_bb {T : lm_TB} {k r : Nat} {v : Int32} {h : lm_HV} : lm_hp T k r (lm_b8 v) h = lm_hp T k r v h := by
  by_cases c : 6 < k
  · have e : lm_hS k (lm_b8 v) h = lm_hS k v h := by
      unfold lm_hS
      rw [if_pos c, if_pos c]
      exact lm_flp_c (lm_i255 v).symm
    have e2 : lm_hB k (lm_b8 v) h = lm_hB k v h := by
      unfold lm_hB
      rw [if_pos c, if_pos c]
    unfold lm_hp
    rw [e, e2]
  · exact lm_hp_b8 c
/-! the class -/
def lm_Cok (xs : List Int32) (C : lm_CX) : Prop := lm_Tok (lm_sc xs) C.1 ∧ ∃ n0, lm_Iok n0 ∧ C.2 = (n0 215, n0 217, n0 218)
def ln_rt (m : lm_MI) : Prop := m 11 1 = Int32.ofNat 64 ∧ m 17 1 = Int32.ofNat 128
theorem lm_Con.cok {m : lm_MI} {n : lm_ML} (h : lm_Con m n) (xs : List Int32) : lm_Cok xs (lm_cx m n) := ⟨h.tok xs, n, h.iok, rfl⟩
theorem lm_Con.rt {m : lm_MI} {n : lm_ML} (h : lm_Con m n) : ln_rt m := ⟨h.2.2.2.2.2.2.2.2.1, h.2.2.2.2.2.2.2.2.2⟩
theorem lm_fC.rt {m m' : lm_MI} {n n' : lm_ML} (h : lm_fC m n m' n') (g : ln_rt m) : ln_rt m' := ⟨h.2.2.1.trans g.1, h.2.2.2.trans g.2⟩
section LMCM
variable {xs : List Int32} {C : lm_CX} {d k L l q v a : Nat} {G : Nat → Int32} {m : lm_MI} {n : lm_ML} {x : lm_H × Nat × Nat}
theorem lm_cS (hC : lm_Cok xs C) (hr : ln_rt m) (h1 : 1 ≤ k) (h2 : k ≤ 12) : ∃ m' n', lm_cal (lm_sc xs) (d + 3) 139 [.ref 4, .int (Int32.ofNat k)] (lm_w m n x) = some (.ok (some (.ref (lm_obj k))), lm_w m' n' x) ∧ lm_CS m' n' k (lm_MS C k G 0) ∧ lm_fC m n m' n' := by
  obtain ⟨n0, hI, e⟩ := hC.2
  obtain ⟨m', n', c, s, f⟩ := lm_cstt (xs := xs) (d := d) (x := x) (n := n) h1 h2 hr.1 hr.2 hI (J := fun _ => 0) (b := fun _ => 0)
  refine ⟨m', n', c, ?_, f⟩
  have e2 : lm_MS C k G 0 = (0, Int64.ofNat 0, lm_st0' (n0 215) (n0 217) (n0 218) k (fun _ => 0), fun _ => 0) := by
    show lm_ms0 C k = _
    unfold lm_ms0
    rw [e]
  rw [e2]
  exact s
theorem lm_cSo (hC : lm_Cok xs C) (hr : ln_rt m) (h1 : 1 ≤ k) (h2 : k ≤ 12) : ∃ m' n', lm_cal (lm_sc xs) (d + 2) (lm_sy k) [.ref (lm_obj k), .int (Int32.ofNat k)] (lm_w m n x) = some (.ok none, lm_w m' n' x) ∧ lm_CS m' n' k (lm_MS C k G 0) ∧ lm_fC m n m' n' := by
  obtain ⟨n0, hI, e⟩ := hC.2
  obtain ⟨m', n', c, s, f⟩ := lm_csto (xs := xs) (d := d) (x := x) (n := n) h1 h2 hr.1 hr.2 hI (J := fun _ => 0) (b := fun _ => 0)
  refine ⟨m', n', c, ?_, f⟩
  have e2 : lm_MS C k G 0 = (0, Int64.ofNat 0, lm_st0' (n0 215) (n0 217) (n0 218) k (fun _ => 0), fun _ => 0) := by
    show lm_ms0 C k = _
    unfold lm_ms0
    rw [e]
  rw [e2]
  exact s
theorem lm_cA (hC : lm_Cok xs C) (h1 : 1 ≤ k) (h2 : k ≤ 12) (hq : q < 5 ∨ 22 < q) (har : lm_ar q = some (1, v)) (hal : a + l ≤ v) (hv : v ≤ 70000) (hG : ∀ t, t < l → lm_b8 (m q (a + t)) = G (L + t)) (hS : lm_CS m n k (lm_MS C k G L)) : ∃ m' n', lm_cal (lm_sc xs) (d + 4) 140 [.ref (lm_obj k), .ref q, .int (Int32.ofNat a), .int (Int32.ofNat l)] (lm_w m n x) = some (.ok none, lm_w m' n' x) ∧ lm_CS m' n' k (lm_MS C k G (L + l)) ∧ lm_fC m n m' n' := by
  obtain ⟨m', n', c, s, f⟩ := lm_cadd (d := d) (x := x) hC.1 h1 h2 hq har hal hv lm_MS_lt hS
  refine ⟨m', n', c, ?_, f.C h1 h2⟩
  rw [ln_hps_sh (G := G) l a L _ hG, ← lm_MS_add] at s
  exact s
theorem lm_cF (hC : lm_Cok xs C) (h1 : 1 ≤ k) (h2 : k ≤ 12) (hq : q < 5 ∨ 22 < q) (har : lm_ar q = some (1, v)) (hal : a + l ≤ v) (hv : v ≤ 70000) (hl : k ≤ 6 → l ≤ 64 ∧ (lm_rate k = 64 → l ≤ 32)) (hS : lm_CS m n k (lm_MS C k G L)) : ∃ m' n', lm_cal (lm_sc xs) (d + 4) (lm_fy k) [.ref (lm_obj k), .ref q, .int (Int32.ofNat a), .int (Int32.ofNat l)] (lm_w m n x) = some (.ok none, lm_w (lm_fil m' q a (a + l) (fun i => lm_Hm C k G L (i - a))) n' x) ∧ lm_fC m n m' n' := by
  obtain ⟨m', n', c, f⟩ := lm_cfin (d := d) (x := x) hC.1 h1 h2 hq har hal hv hl lm_MS_lt hS
  exact ⟨m', n', c, f.C h1 h2⟩
end LMCM
/-! the reference -/
theorem lm_fh.cx {m m' : lm_MI} {n n' : lm_ML} (h : lm_fh m n m' n') : lm_cx m' n' = lm_cx m n := by
  unfold lm_cx
  rw [h.tb, h.2.2 215 (by decide) (by decide) (by decide) (by decide) (by decide), h.2.2 217 (by decide) (by decide) (by decide) (by decide) (by decide), h.2.2 218 (by decide) (by decide) (by decide) (by decide) (by decide)]
def lm_rH (m : lm_MI) (n : lm_ML) (C : lm_CX) (k : Nat) (G : Nat → Int32) (L : Nat) : Prop := ∃ h, lm_HS m n k (lm_rate k) h ∧ h.1 < lm_rate k ∧ lm_he k h (lm_MS C k G L)
section LMRM
variable {sc : lm_H} {C : lm_CX} {d k L l q v a : Nat} {G : Nat → Int32} {m : lm_MI} {n : lm_ML} {x : lm_H × Nat × Nat}
theorem lm_rS (hC : lm_cx m n = C) (h1 : 1 ≤ k) (h2 : k ≤ 12) : ∃ m' n', lm_cal sc (d + 2) 61 [.ref 203, .int (Int32.ofNat k)] (lm_w m n x) = some (.ok none, lm_w m' n' x) ∧ lm_rH m' n' C k G 0 ∧ lm_fh m n m' n' := by
  obtain ⟨m', n', c, s, f⟩ := lm_u61 (sc := sc) (d := d) (x := x) (m := m) (n := n) h1 h2
  refine ⟨m', n', c, ⟨_, s, by have := lm_rate_pos k; show 0 < lm_rate k; omega, ?_⟩, f⟩
  rw [← hC]
  exact lm_he_0
theorem lm_rA (hC : lm_cx m n = C) (h2 : k ≤ 12) (hq : q ≠ 203 ∧ q ≠ 227) (har : lm_ar q = some (1, v)) (hal : a + l ≤ v) (hv : v ≤ 70000) (hG : ∀ t, t < l → lm_b8 (m q (a + t)) = G (L + t)) (hS : lm_rH m n C k G L) : ∃ m' n', lm_cal sc (d + 4) 62 [.ref 203, .ref q, .int (Int32.ofNat a), .int (Int32.ofNat l)] (lm_w m n x) = some (.ok none, lm_w m' n' x) ∧ lm_rH m' n' C k G (L + l) ∧ lm_fh m n m' n' := by
  obtain ⟨h, s0, s1, s2⟩ := hS
  obtain ⟨m', n', c, s, f⟩ := lm_u62 (sc := sc) (d := d) (x := x) (lm_kr_rate h2) hq har hal hv s1 s0
  have e : lm_tb m n = C.1 := by rw [← hC]; rfl
  rw [ln_hps_sh (G := G) l a L _ hG, e] at s
  refine ⟨m', n', c, ⟨_, s, lm_hps_f _ _ _ s1, ?_⟩, f⟩
  rw [lm_MS_add]
  exact lm_he_hps (lm_kr_rate h2) _ _ _ _ s1 s2
theorem lm_rB {w : Int32} (hC : lm_cx m n = C) (h2 : k ≤ 12) (hG : lm_b8 w = G L) (hS : lm_rH m n C k G L) : ∃ m' n', lm_cal sc (d + 3) 69 [.ref 203, .int w] (lm_w m n x) = some (.ok none, lm_w m' n' x) ∧ lm_rH m' n' C k G (L + 1) ∧ lm_fh m n m' n' := by
  obtain ⟨h, s0, s1, s2⟩ := hS
  obtain ⟨m', n', c, s, f⟩ := lm_u69 (sc := sc) (d := d) (x := x) (v := w) (lm_kr_rate h2) s1 s0
  have e : lm_tb m n = C.1 := by rw [← hC]; rfl
  rw [← lm_hp_bb, hG, e] at s
  refine ⟨m', n', c, ⟨_, s, lm_hp_lt s1, ?_⟩, f⟩
  rw [lm_MS_add]
  exact lm_he_hp (lm_kr_rate h2) s1 s2
theorem lm_rG (hC : lm_cx m n = C) (h2 : k ≤ 12) (hq : q ≠ 203 ∧ q ≠ 227 ∧ q ≠ 221) (har : lm_ar q = some (1, v)) (hal : a + l ≤ v) (hv : v ≤ 70000) (hl : k ≤ 6 → l ≤ 64 ∧ (lm_rate k = 64 → l ≤ 32)) (hS : lm_rH m n C k G L) : ∃ m' n', lm_cal sc (d + 5) 63 [.ref 203, .ref q, .int (Int32.ofNat a), .int (Int32.ofNat l)] (lm_w m n x) = some (.ok none, lm_w (lm_fil m' q a (a + l) (fun i => lm_Hm C k G L (i - a))) n' x) ∧ lm_fh m n m' n' := by
  obtain ⟨h, s0, s1, s2⟩ := hS
  obtain ⟨m', n', c, f⟩ := lm_u63 (sc := sc) (d := d) (x := x) (lm_kr_rate h2) (lm_rate_pos k) hq har hal hv hl s1 s0
  have e : lm_tb m n = C.1 := by rw [← hC]; rfl
  refine ⟨m', n', ?_, f⟩
  rw [e, lm_fl_ext (g' := fun i => lm_Hm C k G L (i - a)) (fun i i1 i2 => lm_he_out h2 s1 s2 (fun hk => ⟨by have := hl hk; omega, fun hr => by have := (hl hk).2 hr; omega⟩))] at c
  exact c
/-! squeezing -/
def lm_rQ (m : lm_MI) (n : lm_ML) (C : lm_CX) (k : Nat) (G : Nat → Int32) (L t : Nat) : Prop := m 203 18 = Int32.ofNat k ∧ m 203 19 = Int32.ofNat (lm_rate k) ∧ ∃ j i S, t = j * lm_rate k + i ∧ i ≤ lm_rate k ∧ m 203 20 = Int32.ofNat i ∧ n 223 = lm_kN C.1.1 C.1.2.1 j S ∧ ∀ u, u < 25 → S u = (lm_hf C.1 k (lm_rate k) (lm_MS C k G L)).2.2.1 u
theorem lm_rF (hC : lm_cx m n = C) (hk : 6 < k) (h2 : k ≤ 12) (hS : lm_rH m n C k G L) : ∃ m' n', lm_cal sc (d + 4) 147 [.ref 203] (lm_w m n x) = some (.ok none, lm_w m' n' x) ∧ lm_rQ m' n' C k G L 0 ∧ lm_fh m n m' n' := by
  obtain ⟨h, s0, s1, s2⟩ := hS
  obtain ⟨m', n', c, s, f⟩ := lm_u147 (sc := sc) (d := d) (x := x) (lm_kr_rate h2) (lm_rate_pos k) s1 s0
  have e : lm_tb m n = C.1 := by rw [← hC]; rfl
  rw [e] at s
  obtain ⟨g1, g2, g3, g4, g5, g6⟩ := s
  refine ⟨m', n', c, ⟨g1, g2, 0, 0, _, by omega, by omega, ?_, g5, fun u hu => ?_⟩, f⟩
  · rw [g3]
    unfold lm_hf
    rw [if_pos hk]
  · exact lm_he_hf (lm_kr_rate h2) s1 s2 u (by rw [if_pos hk]; exact hu)
theorem lm_rSq {t : Nat} (hC : lm_cx m n = C) (hk : 6 < k) (h2 : k ≤ 12) (hS : lm_rQ m n C k G L t) : ∃ m' n', lm_cal sc (d + 3) 149 [.ref 203] (lm_w m n x) = some (.ok (some (.int (Int32.ofNat (lm_yb (lm_Hm C k G L t))))), lm_w m' n' x) ∧ lm_rQ m' n' C k G L (t + 1) ∧ lm_fh m n m' n' := by
  obtain ⟨g1, g2, j, i, S, e0, e1, e2, e3, e4⟩ := hS
  have hrp := lm_rate_pos k
  have hr := (lm_kr_rate (k := k) h2).2.1
  have et : lm_tb m n = C.1 := by rw [← hC]; rfl
  have eq1 : m 221 = C.1.1 := congrArg (fun T : lm_TB => T.1) et
  have eq2 : n 222 = C.1.2.1 := congrArg (fun T : lm_TB => T.2.1) et
  have key : ∀ j i, i < lm_rate k → (Int64.toInt32 (lm_uL (lm_kN C.1.1 C.1.2.1 j S (i / 8)) (Int32.ofNat (8 * (i % 8))))) &&& (Int32.ofInt 255) = Int32.ofNat (lm_yb (lm_Hm C k G L (j * lm_rate k + i))) := by
    intro j i hi
    have e5 : lm_Hm C k G L (j * lm_rate k + i) = lm_og (lm_kN C.1.1 C.1.2.1 j (lm_hf C.1 k (lm_rate k) (lm_MS C k G L)).2.2.1) i := by
      unfold lm_Hm lm_ou lm_ok
      rw [if_pos hk, Nat.add_comm, Nat.add_mul_div_right _ _ (by omega), Nat.div_eq_of_lt hi, Nat.zero_add, Nat.add_mul_mod_self_right, Nat.mod_eq_of_lt hi]
    rw [e5]
    unfold lm_og
    rw [lm_yb_b8, ← lm_kN_lo (fun _ _ => rfl) (fun _ _ => rfl) e4 j (i / 8) (by omega)]
    apply lm_32n
    rw [Int32.toBitVec_and, BitVec.toNat_and, lm_K255, lm_tn (by decide), show (255 : Nat) = 2 ^ 8 - 1 from rfl, Nat.and_two_pow_sub_one_eq_mod]
    rfl
  by_cases c : i < lm_rate k
  · have h := lm_u149a (sc := sc) (d := d) (x := x) hr g2 e2 e3 c
    rw [key j i c, ← e0] at h
    refine ⟨_, _, h, ⟨?_, ?_, j, i + 1, S, by omega, by omega, lm_u_eq, e3, e4⟩, lm_fh.rf.u20⟩
    · rw [lm_u_ne (by decide)]; exact g1
    · rw [lm_u_ne (by decide)]; exact g2
  · have ei : i = lm_rate k := by omega
    subst ei
    obtain ⟨n', h, h5, h6⟩ := lm_u149b (sc := sc) (d := d) (x := x) (r := lm_rate k) (by omega) hr g2 e2 e3
    rw [eq1, eq2] at h h5
    have k0 := key (j + 1) 0 (by omega)
    have em : (j + 1) * lm_rate k + 0 = j * lm_rate k + lm_rate k := by rw [Nat.succ_mul, Nat.add_zero]
    rw [em, ← e0] at k0
    have h' : lm_cal sc (d + 3) 149 [.ref 203] (lm_w m n x) = some (.ok (some (.int (Int32.ofNat (lm_yb (lm_Hm C k G L t))))), lm_w (lm_u m 203 20 (Int32.ofNat 1)) n' x) := by
      rw [← k0]
      exact h
    refine ⟨_, n', h', ⟨?_, ?_, j + 1, 1, S, by omega, by omega, lm_u_eq, h5, e4⟩, lm_fh.tr ⟨fun _ _ _ => rfl, fun _ _ _ _ => rfl, fun q a b c d e => h6 q b c d⟩ lm_fh.rf.u20⟩
    · rw [lm_u_ne (by decide)]; exact g1
    · rw [lm_u_ne (by decide)]; exact g2
end LMRM
/-! squeezing of the class, block by block -/
def lm_cQ (m : lm_MI) (n : lm_ML) (C : lm_CX) (k : Nat) (G : Nat → Int32) (L j : Nat) : Prop := m 5 1 = Int32.ofNat (lm_rate k) ∧ ∀ u, u < 25 → n 8 u = lm_kN C.1.1 C.1.2.1 j (lm_hf C.1 k (lm_rate k) (lm_MS C k G L)).2.2.1 u
section LMCQ
variable {xs : List Int32} {C : lm_CX} {d k L l q v a : Nat} {G : Nat → Int32} {m : lm_MI} {n : lm_ML} {x : lm_H × Nat × Nat}
theorem lm_cFq (hC : lm_Cok xs C) (hk : 6 < k) (h2 : k ≤ 12) (hq : q < 5 ∨ 22 < q) (har : lm_ar q = some (1, v)) (hal : lm_rate k ≤ v) (hv : v ≤ 70000) (hS : lm_CS m n k (lm_MS C k G L)) : ∃ m' n', lm_cal (lm_sc xs) (d + 4) 143 [.ref 5, .ref q, .int (Int32.ofNat 0), .int (Int32.ofNat (lm_rate k))] (lm_w m n x) = some (.ok none, lm_w (lm_fil m' q 0 (lm_rate k) (fun i => lm_Hm C k G L i)) n' x) ∧ lm_fC m n m' n' ∧ lm_cQ m' n' C k G L 0 := by
  unfold lm_CS at hS
  rw [if_neg (by omega), if_neg (by omega)] at hS
  obtain ⟨hC5, _, hx⟩ := hS
  obtain ⟨c1, c2, c3, c4, c5, c6, c7⟩ := hC5
  obtain ⟨zs, ys, t1, t2, t3, t4, t5, t6, t7⟩ := hC.1
  have hf : (lm_MS C k G L).1 < lm_rate k := lm_MS_lt
  have er : lm_rate k = 8 * (lm_rate k / 8) := by omega
  have hsf : lm_sfx k = Int32.ofInt 6 ∨ lm_sfx k = Int32.ofInt 31 := by
    unfold lm_sfx
    by_cases c : k ≤ 10
    · rw [if_pos c]; exact Or.inl rfl
    · rw [if_neg c]; exact Or.inr rfl
  generalize eh : lm_MS C k G L = h at *
  generalize egr : lm_rate k = r at *
  obtain ⟨n1, e1, f1, f2⟩ := lm_u206 (sc := lm_sc xs) (d := d) (m := lm_ms m h.1 r (lm_sfx k)) (x := x) (n := n) (w := r / 8) t1 t2 (by rw [lm_ms_row (by decide)]; exact c5.trans (congrArg Int32.ofNat er)) (by omega)
  rw [← er, lm_ms_S hf hsf] at f1
  have hS : ∀ i, i < 25 → n1 8 i = (lm_hf C.1 k r h).2.2.1 i := by
    intro i hi
    rw [f1]
    unfold lm_hf
    rw [if_pos c1]
    refine lm_kF_lo (fun i hi => (t5 i hi).symm) (fun t ht => (t6 t ht).symm) 24 0 _ _ (by decide) ?_ i hi
    exact lm_flp_lo (lm_flp_lo (fun i hi => (c7 i hi).symm))
  have e5 : lm_ms m h.1 r (lm_sfx k) 5 1 = Int32.ofNat r := by rw [lm_ms_row (by decide)]; exact c5
  refine ⟨lm_ms m h.1 r (lm_sfx k), n1, ?_, ?_, ?_, ?_⟩
  · refine lm_cal_of (Y := lm_m143) rfl rfl (lm_e143_0 ?_)
    unfold lm_q143_0
    repeat (first
    | ((with_reducible apply lm_sI); exact rfl)
    | ((with_reducible apply lm_sR); exact rfl)
    | ((with_reducible apply lm_sS); exact rfl; exact rfl)
    | ((with_reducible apply lm_sL); exact rfl)
    | ((with_reducible apply lm_sP); exact rfl; exact rfl)
    | ((with_reducible apply lm_sPL); exact rfl; exact rfl)
    | ((with_reducible apply lm_sAA); exact rfl; first | exact rfl | exact lm_roO (by omega) | exact lm_roM (by omega))
    | ((with_reducible apply lm_sI); exact lm_fpL (by omega))
    | ((with_reducible apply lm_sR); exact lm_fpB (by omega))
    | ((with_reducible apply lm_sP); exact lm_fpL (by omega); exact rfl)
    | ((with_reducible apply lm_sS); exact lm_ocO (by omega); exact rfl)
    | ((with_reducible apply lm_sA); exact rfl; omega)
    | ((with_reducible apply lm_sJ); exact rfl; omega)
    | ((with_reducible apply lm_sB); (first | exact rfl | exact lm_arB (by omega) | exact lm_arM (by omega)); omega)
    | ((with_reducible apply lm_wA); exact rfl; omega)
    | ((with_reducible apply lm_wJ); exact rfl; omega)
    | ((with_reducible apply lm_wB); (first | exact rfl | exact lm_arB (by omega) | exact lm_arM (by omega)); omega)
    | ((with_reducible apply lm_sAl); (first | exact rfl | exact lm_arB (by omega) | exact lm_arM (by omega)); omega)
    | ((with_reducible apply lm_iW); decide))
    simp only [Nat.reduceDiv, Nat.reduceMod, c6, hx]
    refine lm_wB rfl (by omega) ?_
    repeat (first
    | ((with_reducible apply lm_sI); exact rfl)
    | ((with_reducible apply lm_sR); exact rfl)
    | ((with_reducible apply lm_sS); exact rfl; exact rfl)
    | ((with_reducible apply lm_sL); exact rfl)
    | ((with_reducible apply lm_sP); exact rfl; exact rfl)
    | ((with_reducible apply lm_sPL); exact rfl; exact rfl)
    | ((with_reducible apply lm_sAA); exact rfl; first | exact rfl | exact lm_roO (by omega) | exact lm_roM (by omega))
    | ((with_reducible apply lm_sI); exact lm_fpL (by omega))
    | ((with_reducible apply lm_sR); exact lm_fpB (by omega))
    | ((with_reducible apply lm_sP); exact lm_fpL (by omega); exact rfl)
    | ((with_reducible apply lm_sS); exact lm_ocO (by omega); exact rfl)
    | ((with_reducible apply lm_sA); exact rfl; omega)
    | ((with_reducible apply lm_sJ); exact rfl; omega)
    | ((with_reducible apply lm_sB); (first | exact rfl | exact lm_arB (by omega) | exact lm_arM (by omega)); omega)
    | ((with_reducible apply lm_wA); exact rfl; omega)
    | ((with_reducible apply lm_wJ); exact rfl; omega)
    | ((with_reducible apply lm_wB); (first | exact rfl | exact lm_arB (by omega) | exact lm_arM (by omega)); omega)
    | ((with_reducible apply lm_sAl); (first | exact rfl | exact lm_arB (by omega) | exact lm_arM (by omega)); omega)
    | ((with_reducible apply lm_iW); decide))
    simp only [Nat.reduceDiv, Nat.reduceMod]
    rw [lm_u_row (by decide), c5, c6, show Int32.ofNat h.1 + Int32.ofInt 1 = Int32.ofNat (h.1 + 1) from lm_oa h.1 1]
    refine lm_cV (lm_u134 (d := d + 1) rfl (by omega) (by omega)) ?_
    repeat (first
    | ((with_reducible apply lm_sI); exact rfl)
    | ((with_reducible apply lm_sR); exact rfl)
    | ((with_reducible apply lm_sS); exact rfl; exact rfl)
    | ((with_reducible apply lm_sL); exact rfl)
    | ((with_reducible apply lm_sP); exact rfl; exact rfl)
    | ((with_reducible apply lm_sPL); exact rfl; exact rfl)
    | ((with_reducible apply lm_sAA); exact rfl; first | exact rfl | exact lm_roO (by omega) | exact lm_roM (by omega))
    | ((with_reducible apply lm_sI); exact lm_fpL (by omega))
    | ((with_reducible apply lm_sR); exact lm_fpB (by omega))
    | ((with_reducible apply lm_sP); exact lm_fpL (by omega); exact rfl)
    | ((with_reducible apply lm_sS); exact lm_ocO (by omega); exact rfl)
    | ((with_reducible apply lm_sA); exact rfl; omega)
    | ((with_reducible apply lm_sJ); exact rfl; omega)
    | ((with_reducible apply lm_sB); (first | exact rfl | exact lm_arB (by omega) | exact lm_arM (by omega)); omega)
    | ((with_reducible apply lm_wA); exact rfl; omega)
    | ((with_reducible apply lm_wJ); exact rfl; omega)
    | ((with_reducible apply lm_wB); (first | exact rfl | exact lm_arB (by omega) | exact lm_arM (by omega)); omega)
    | ((with_reducible apply lm_sAl); (first | exact rfl | exact lm_arB (by omega) | exact lm_arM (by omega)); omega)
    | ((with_reducible apply lm_iW); decide))
    simp only [Nat.reduceDiv, Nat.reduceMod]
    rw [lm_fl_row (by decide), lm_u_row (by decide), c5, show Int32.ofNat r - Int32.ofInt 1 = Int32.ofNat (r - 1) by rw [lm_K1, lm_osu (by omega)]]
    repeat (first
    | ((with_reducible apply lm_sI); exact rfl)
    | ((with_reducible apply lm_sR); exact rfl)
    | ((with_reducible apply lm_sS); exact rfl; exact rfl)
    | ((with_reducible apply lm_sL); exact rfl)
    | ((with_reducible apply lm_sP); exact rfl; exact rfl)
    | ((with_reducible apply lm_sPL); exact rfl; exact rfl)
    | ((with_reducible apply lm_sAA); exact rfl; first | exact rfl | exact lm_roO (by omega) | exact lm_roM (by omega))
    | ((with_reducible apply lm_sI); exact lm_fpL (by omega))
    | ((with_reducible apply lm_sR); exact lm_fpB (by omega))
    | ((with_reducible apply lm_sP); exact lm_fpL (by omega); exact rfl)
    | ((with_reducible apply lm_sS); exact lm_ocO (by omega); exact rfl)
    | ((with_reducible apply lm_sA); exact rfl; omega)
    | ((with_reducible apply lm_sJ); exact rfl; omega)
    | ((with_reducible apply lm_sB); (first | exact rfl | exact lm_arB (by omega) | exact lm_arM (by omega)); omega)
    | ((with_reducible apply lm_wA); exact rfl; omega)
    | ((with_reducible apply lm_wJ); exact rfl; omega)
    | ((with_reducible apply lm_wB); (first | exact rfl | exact lm_arB (by omega) | exact lm_arM (by omega)); omega)
    | ((with_reducible apply lm_sAl); (first | exact rfl | exact lm_arB (by omega) | exact lm_arM (by omega)); omega)
    | ((with_reducible apply lm_iW); decide))
    refine lm_cV e1 ?_
    repeat (first
    | ((with_reducible apply lm_sI); exact rfl)
    | ((with_reducible apply lm_sR); exact rfl)
    | ((with_reducible apply lm_sS); exact rfl; exact rfl)
    | ((with_reducible apply lm_sL); exact rfl)
    | ((with_reducible apply lm_sP); exact rfl; exact rfl)
    | ((with_reducible apply lm_sPL); exact rfl; exact rfl)
    | ((with_reducible apply lm_sAA); exact rfl; first | exact rfl | exact lm_roO (by omega) | exact lm_roM (by omega))
    | ((with_reducible apply lm_sI); exact lm_fpL (by omega))
    | ((with_reducible apply lm_sR); exact lm_fpB (by omega))
    | ((with_reducible apply lm_sP); exact lm_fpL (by omega); exact rfl)
    | ((with_reducible apply lm_sS); exact lm_ocO (by omega); exact rfl)
    | ((with_reducible apply lm_sA); exact rfl; omega)
    | ((with_reducible apply lm_sJ); exact rfl; omega)
    | ((with_reducible apply lm_sB); (first | exact rfl | exact lm_arB (by omega) | exact lm_arM (by omega)); omega)
    | ((with_reducible apply lm_wA); exact rfl; omega)
    | ((with_reducible apply lm_wJ); exact rfl; omega)
    | ((with_reducible apply lm_wB); (first | exact rfl | exact lm_arB (by omega) | exact lm_arM (by omega)); omega)
    | ((with_reducible apply lm_sAl); (first | exact rfl | exact lm_arB (by omega) | exact lm_arM (by omega)); omega)
    | ((with_reducible apply lm_iW); decide))
    simp only [Nat.reduceDiv, Nat.reduceMod]
    rw [e5]
    refine lm_cI (lm_u205 (d := d + 2) (by omega) (by omega)) ?_
    repeat (first
    | ((with_reducible apply lm_sI); exact rfl)
    | ((with_reducible apply lm_sR); exact rfl)
    | ((with_reducible apply lm_sS); exact rfl; exact rfl)
    | ((with_reducible apply lm_sL); exact rfl)
    | ((with_reducible apply lm_sP); exact rfl; exact rfl)
    | ((with_reducible apply lm_sPL); exact rfl; exact rfl)
    | ((with_reducible apply lm_sAA); exact rfl; first | exact rfl | exact lm_roO (by omega) | exact lm_roM (by omega))
    | ((with_reducible apply lm_sI); exact lm_fpL (by omega))
    | ((with_reducible apply lm_sR); exact lm_fpB (by omega))
    | ((with_reducible apply lm_sP); exact lm_fpL (by omega); exact rfl)
    | ((with_reducible apply lm_sS); exact lm_ocO (by omega); exact rfl)
    | ((with_reducible apply lm_sA); exact rfl; omega)
    | ((with_reducible apply lm_sJ); exact rfl; omega)
    | ((with_reducible apply lm_sB); (first | exact rfl | exact lm_arB (by omega) | exact lm_arM (by omega)); omega)
    | ((with_reducible apply lm_wA); exact rfl; omega)
    | ((with_reducible apply lm_wJ); exact rfl; omega)
    | ((with_reducible apply lm_wB); (first | exact rfl | exact lm_arB (by omega) | exact lm_arM (by omega)); omega)
    | ((with_reducible apply lm_sAl); (first | exact rfl | exact lm_arB (by omega) | exact lm_arM (by omega)); omega)
    | ((with_reducible apply lm_iW); decide))
    refine lm_cV (lm_u211 (d := d + 2) har (by omega) hv (by omega)) ?_
    repeat (first
    | ((with_reducible apply lm_sI); exact rfl)
    | ((with_reducible apply lm_sR); exact rfl)
    | ((with_reducible apply lm_sS); exact rfl; exact rfl)
    | ((with_reducible apply lm_sL); exact rfl)
    | ((with_reducible apply lm_sP); exact rfl; exact rfl)
    | ((with_reducible apply lm_sPL); exact rfl; exact rfl)
    | ((with_reducible apply lm_sAA); exact rfl; first | exact rfl | exact lm_roO (by omega) | exact lm_roM (by omega))
    | ((with_reducible apply lm_sI); exact lm_fpL (by omega))
    | ((with_reducible apply lm_sR); exact lm_fpB (by omega))
    | ((with_reducible apply lm_sP); exact lm_fpL (by omega); exact rfl)
    | ((with_reducible apply lm_sS); exact lm_ocO (by omega); exact rfl)
    | ((with_reducible apply lm_sA); exact rfl; omega)
    | ((with_reducible apply lm_sJ); exact rfl; omega)
    | ((with_reducible apply lm_sB); (first | exact rfl | exact lm_arB (by omega) | exact lm_arM (by omega)); omega)
    | ((with_reducible apply lm_wA); exact rfl; omega)
    | ((with_reducible apply lm_wJ); exact rfl; omega)
    | ((with_reducible apply lm_wB); (first | exact rfl | exact lm_arB (by omega) | exact lm_arM (by omega)); omega)
    | ((with_reducible apply lm_sAl); (first | exact rfl | exact lm_arB (by omega) | exact lm_arM (by omega)); omega)
    | ((with_reducible apply lm_iW); decide))
    simp only [Nat.reduceDiv, Nat.reduceMod]
    rw [lm_fl_row (by omega), e5, Nat.min_self, Nat.zero_add]
    rw [lm_fl_ext (g := fun i => lm_og (n1 8) (i - 0)) (g' := fun i => lm_Hm C k G L i) (fun i hi1 hi2 => by
      unfold lm_Hm lm_ou lm_ok
      rw [if_pos hk, egr, eh, Nat.div_eq_of_lt hi2, Nat.mod_eq_of_lt hi2]
      show _ = lm_og (lm_hf C.1 k r h).2.2.1 i
      unfold lm_og
      rw [Nat.sub_zero, hS (i / 8) (by omega)])]
    refine lm_e143_73 ?_
    unfold lm_q143_73
    exact lm_geT (by omega) (by omega) (by omega) rfl
  · exact ⟨fun p hp => lm_ms_row (by omega), fun p hp => f2 p (by omega) (by omega), by rw [lm_ms_row (by decide)], by rw [lm_ms_row (by decide)]⟩
  · rw [e5, egr]
  · rw [egr, eh]
    exact hS
theorem lm_cGo {j : Nat} (hC : lm_Cok xs C) (hk : 6 < k) (h2 : k ≤ 12) (hq : q < 5 ∨ 22 < q) (har : lm_ar q = some (1, v)) (hal : lm_rate k ≤ v) (hv : v ≤ 70000) (hr168 : lm_rate k ≤ 168) (hS : lm_cQ m n C k G L j) : ∃ n', lm_cal (lm_sc xs) (d + 3) 293 [.ref 5, .ref q] (lm_w m n x) = some (.ok none, lm_w (lm_fil m q 0 (lm_rate k) (fun i => lm_Hm C k G L ((j + 1) * lm_rate k + i))) n' x) ∧ lm_fC m n m n' ∧ lm_cQ m n' C k G L (j + 1) := by
  obtain ⟨zs, ys, t1, t2, t3, t4, t5, t6, t7⟩ := hC.1
  obtain ⟨s1, s2⟩ := hS
  have hrp := lm_rate_pos k
  obtain ⟨n1, e1, f1, f2⟩ := lm_u212 (sc := lm_sc xs) (d := d) (m := m) (x := x) (n := n) t1 t2
  have hS : ∀ u, u < 25 → n1 8 u = lm_kN C.1.1 C.1.2.1 (j + 1) (lm_hf C.1 k (lm_rate k) (lm_MS C k G L)).2.2.1 u := by
    intro u hu
    rw [f1]
    exact lm_kF_lo (fun i hi => (t5 i hi).symm) (fun t ht => (t6 t ht).symm) 24 0 _ _ (by decide) s2 u hu
  refine ⟨n1, ?_, ⟨fun _ _ => rfl, fun p hp => f2 p (by omega) (by omega), rfl, rfl⟩, s1, hS⟩
  refine lm_cal_of (Y := lm_m293) rfl rfl (lm_e293_0 ?_)
  unfold lm_q293_0
  repeat (first
    | ((with_reducible apply lm_sI); exact rfl)
    | ((with_reducible apply lm_sR); exact rfl)
    | ((with_reducible apply lm_sS); exact rfl; exact rfl)
    | ((with_reducible apply lm_sL); exact rfl)
    | ((with_reducible apply lm_sP); exact rfl; exact rfl)
    | ((with_reducible apply lm_sPL); exact rfl; exact rfl)
    | ((with_reducible apply lm_sAA); exact rfl; first | exact rfl | exact lm_roO (by omega) | exact lm_roM (by omega))
    | ((with_reducible apply lm_sI); exact lm_fpL (by omega))
    | ((with_reducible apply lm_sR); exact lm_fpB (by omega))
    | ((with_reducible apply lm_sP); exact lm_fpL (by omega); exact rfl)
    | ((with_reducible apply lm_sS); exact lm_ocO (by omega); exact rfl)
    | ((with_reducible apply lm_sA); exact rfl; omega)
    | ((with_reducible apply lm_sJ); exact rfl; omega)
    | ((with_reducible apply lm_sB); (first | exact rfl | exact lm_arB (by omega) | exact lm_arM (by omega)); omega)
    | ((with_reducible apply lm_wA); exact rfl; omega)
    | ((with_reducible apply lm_wJ); exact rfl; omega)
    | ((with_reducible apply lm_wB); (first | exact rfl | exact lm_arB (by omega) | exact lm_arM (by omega)); omega)
    | ((with_reducible apply lm_sAl); (first | exact rfl | exact lm_arB (by omega) | exact lm_arM (by omega)); omega)
    | ((with_reducible apply lm_iW); decide))
  refine lm_cV e1 ?_
  repeat (first
    | ((with_reducible apply lm_sI); exact rfl)
    | ((with_reducible apply lm_sR); exact rfl)
    | ((with_reducible apply lm_sS); exact rfl; exact rfl)
    | ((with_reducible apply lm_sL); exact rfl)
    | ((with_reducible apply lm_sP); exact rfl; exact rfl)
    | ((with_reducible apply lm_sPL); exact rfl; exact rfl)
    | ((with_reducible apply lm_sAA); exact rfl; first | exact rfl | exact lm_roO (by omega) | exact lm_roM (by omega))
    | ((with_reducible apply lm_sI); exact lm_fpL (by omega))
    | ((with_reducible apply lm_sR); exact lm_fpB (by omega))
    | ((with_reducible apply lm_sP); exact lm_fpL (by omega); exact rfl)
    | ((with_reducible apply lm_sS); exact lm_ocO (by omega); exact rfl)
    | ((with_reducible apply lm_sA); exact rfl; omega)
    | ((with_reducible apply lm_sJ); exact rfl; omega)
    | ((with_reducible apply lm_sB); (first | exact rfl | exact lm_arB (by omega) | exact lm_arM (by omega)); omega)
    | ((with_reducible apply lm_wA); exact rfl; omega)
    | ((with_reducible apply lm_wJ); exact rfl; omega)
    | ((with_reducible apply lm_wB); (first | exact rfl | exact lm_arB (by omega) | exact lm_arM (by omega)); omega)
    | ((with_reducible apply lm_sAl); (first | exact rfl | exact lm_arB (by omega) | exact lm_arM (by omega)); omega)
    | ((with_reducible apply lm_iW); decide))
  simp only [Nat.reduceDiv, Nat.reduceMod]
  rw [s1, lm_K0]
  refine lm_cV (lm_u211 (d := d + 1) har (by omega) hv hr168) ?_
  rw [Nat.zero_add]
  rw [lm_fl_ext (g := fun i => lm_og (n1 8) (i - 0)) (g' := fun i => lm_Hm C k G L ((j + 1) * lm_rate k + i)) (fun i hi1 hi2 => by
    unfold lm_Hm lm_ou lm_ok
    rw [if_pos hk, Nat.add_comm, Nat.add_mul_div_right _ _ (by omega), Nat.div_eq_of_lt hi2, Nat.zero_add, Nat.add_mul_mod_self_right, Nat.mod_eq_of_lt hi2]
    unfold lm_og
    rw [Nat.sub_zero, hS (i / 8) (by omega)])]
  rfl
end LMCQ
