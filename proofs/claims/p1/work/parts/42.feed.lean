/-! ===== the two feeds ===== -/
def lm_psx : List Nat := [5, 6, 8, 46, 48, 80, 198]
set_option maxRecDepth 10000 in
theorem lm_shx : lm_shp[0]? = some (.inr (.inr (.inr (0, lm_psx)))) := rfl
def lm_pshs : List Nat := [9, 15, 21, 27, 28, 29]
set_option maxRecDepth 10000 in
theorem lm_shhs : lm_shp[4]? = some (.inr (.inr (.inr (2, lm_pshs)))) := rfl
def lm_pssp : List Nat := [10, 0, 0, 1, 11, 0, 1, 12, 13, 14, 0]
set_option maxRecDepth 10000 in
theorem lm_shsp : lm_shp[5]? = some (.inr (.inr (.inr (5, lm_pssp)))) := rfl
def lm_pss2 : List Nat := [16, 0, 0, 1, 17, 0, 1, 18, 19, 20]
set_option maxRecDepth 10000 in
theorem lm_shs2 : lm_shp[11]? = some (.inr (.inr (.inr (6, lm_pss2)))) := rfl
def lm_pss5 : List Nat := [22, 0, 0, 1, 23, 0, 1, 24, 25, 26]
set_option maxRecDepth 10000 in
theorem lm_shs5 : lm_shp[17]? = some (.inr (.inr (.inr (7, lm_pss5)))) := rfl
def lm_pssg : List Nat := [8, 38, 36, 47, 0, 2]
set_option maxRecDepth 10000 in
theorem lm_shsg : lm_shp[42]? = some (.inr (.inr (.inr (4, lm_pssg)))) := rfl
def lm_pske : List Nat := [8, 49, 50, 51, 68, 73, 74, 75, 76, 77, 78, 79, 0, 0, 0, 0]
set_option maxRecDepth 10000 in
theorem lm_shke : lm_shp[44]? = some (.inr (.inr (.inr (8, lm_pske)))) := rfl
def lm_psds : List Nat := [8, 81, 82, 139, 155, 164, 172, 180, 189, 190, 191, 192, 193, 194, 195, 196, 197, 0, 0, 0]
set_option maxRecDepth 10000 in
theorem lm_shds : lm_shp[76]? = some (.inr (.inr (.inr (9, lm_psds)))) := rfl
def lm_pssl : List Nat := [8, 3, 3, 2, 0, 0, 0, 0, 0, 0, 0, 0, 199, 200, 201, 202, 203, 204, 205, 206]
set_option maxRecDepth 10000 in
theorem lm_shsl : lm_shp[194]? = some (.inr (.inr (.inr (10, lm_pssl)))) := rfl
def lm_psM : List Nat := [208, 209, 218, 0, 0, 219, 220, 221, 222, 223, 224, 225, 226, 227, 228, 229, 230, 231, 0, 0, 0, 1, 232, 233, 0, 234, 235, 236, 267, 268, 269, 270, 0, 0, 0, 0, 271, 272, 273, 322, 331, 332, 0, 0, 0, 0, 0, 0, 0, 0, 333, 334, 335, 336, 337, 338, 355, 356, 357, 358, 359, 360, 361, 362, 363, 364, 365, 0, 0, 0, 0, 0, 0, 0, 2]
set_option maxRecDepth 10000 in
theorem lm_shM : lm_shp[203]? = some (.inr (.inr (.inr (11, lm_psM)))) := rfl
theorem lm_b8b8 (x : Int32) : lm_b8 (lm_b8 x) = lm_b8 x := by
  show (x.toInt8.toInt32).toInt8.toInt32 = x.toInt8.toInt32
  simp
theorem lm_by_set {xs : List Int32} (hx : lm_by xs) (i : Nat) (v : Int32) : lm_by (xs.set i (lm_b8 v)) := by
  intro y hy
  rcases List.mem_or_eq_of_mem_set hy with h | h
  · exact hx y h
  · rw [h]; exact lm_b8b8 v
theorem lm_by_pi {xs : List Int32} (hx : lm_by xs) (v : Int32) (a : Nat) : lm_by (lm_pi v xs a) := lm_by_set (lm_by_set (lm_by_set (lm_by_set hx _ _) _ _) _ _) _ _
theorem lm_pi_len (v : Int32) (xs : List Int32) (a : Nat) : (lm_pi v xs a).length = xs.length := by
  unfold lm_pi
  simp only [List.length_set]
section LMFE
variable {sc h : lm_H} {s : Nat × Nat} {d a : Nat} {xs : List Int32}
theorem lm_t50' (v : Int32) (hS : lm_Sh h) (h3 : lm_vF h 203 3 = some (.int (Int32.ofNat a))) (hA : lm_vA h 204 1 = some xs) (ha : a + 4 ≤ 65536) :
    ∃ h', lm_cal sc (d + 1) 50 [.ref 203, .int v] (h, s) = some (.ok none, (h', s)) ∧ lm_Fr [204] [(203, 3)] h h' ∧ lm_vF h' 203 3 = some (.int (Int32.ofNat (a + 4))) ∧ lm_vA h' 204 1 = some (lm_pi v xs a) := by
  obtain ⟨xs', hA', hl, hby, -⟩ := hS.arr (q := 204) (u := 1) (n := 65536) rfl
  cases hA.symm.trans hA'
  refine ⟨_, lm_t50 (hS.cls lm_shM) (hS.ref lm_shM rfl) h3 hA (by decide) (by decide) (by omega) (by omega), ?_, ?_, ?_⟩
  · exact (lm_Fr.ofA hA rfl ((lm_pi_len _ _ _).trans hl) (fun _ => lm_by_pi (hby rfl) _ _) (fun h => absurd h (by decide))).tr (lm_Fr.ofF lm_shM rfl ⟨_, rfl⟩)
  · exact lm_vF_pf_eq ((lm_vF_pA hA).trans h3)
  · exact lm_vA_pf.trans (lm_vA_pA_eq hA)
/-- five ints laid one behind the other -/
def lm_pi5 (v1 v2 v3 v4 v5 : Int32) (xs : List Int32) (a : Nat) : List Int32 := lm_pi v5 (lm_pi v4 (lm_pi v3 (lm_pi v2 (lm_pi v1 xs a) (a + 4)) (a + 8)) (a + 12)) (a + 16)
/-- the reference's feed, where there is room -/
theorem lm_t3 (v1 v2 v3 v4 v5 : Int32) (hS : lm_Sh h) (h3 : lm_vF h 203 3 = some (.int (Int32.ofNat a))) (hA : lm_vA h 204 1 = some xs) (ha : a + 20 ≤ 65536) :
    ∃ h', lm_cal sc (d + 2) 3 [.ref 203, .int v1, .int v2, .int v3, .int v4, .int v5] (h, s) = some (.ok (some (.int (Int32.ofNat (a + 20)))), (h', s)) ∧ lm_Fr [204] [(203, 3), (203, 4)] h h' ∧ lm_vF h' 203 3 = some (.int (Int32.ofNat (a + 20))) ∧ lm_vF h' 203 4 = some (.int 0) ∧ lm_vA h' 204 1 = some (lm_pi5 v1 v2 v3 v4 v5 xs a) := by
  obtain ⟨w4, h4, -⟩ := hS.fld lm_shM (k := 4) rfl
  have f0 : lm_Fr [] [(203, 4)] h (lm_pf h 203 4 (.int (cond true 0 1))) := lm_Fr.ofF lm_shM rfl ⟨_, rfl⟩
  have S0 := f0.2.1 hS
  have g3 : lm_vF (lm_pf h 203 4 (.int (cond true 0 1))) 203 3 = some (.int (Int32.ofNat a)) := (lm_vF_pf_ne (by decide)).trans h3
  have g4 : lm_vF (lm_pf h 203 4 (.int (cond true 0 1))) 203 4 = some (.int 0) := lm_vF_pf_eq h4
  have gA : lm_vA (lm_pf h 203 4 (.int (cond true 0 1))) 204 1 = some xs := lm_vA_pf.trans hA
  obtain ⟨k1, c1, f1, p1, A1⟩ := lm_t50' (sc := sc) (s := s) (d := d) v1 S0 g3 gA (by omega)
  have S1 := f1.2.1 S0
  obtain ⟨k2, c2, f2, p2, A2⟩ := lm_t50' (sc := sc) (s := s) (d := d) v2 S1 p1 A1 (by omega)
  have S2 := f2.2.1 S1
  obtain ⟨k3, c3, f3, p3, A3⟩ := lm_t50' (sc := sc) (s := s) (d := d) v3 S2 p2 A2 (by omega)
  have S3 := f3.2.1 S2
  obtain ⟨k4, c4, f4, p4, A4⟩ := lm_t50' (sc := sc) (s := s) (d := d) v4 S3 p3 A3 (by omega)
  have S4 := f4.2.1 S3
  obtain ⟨k5, c5, f5, p5, A5⟩ := lm_t50' (sc := sc) (s := s) (d := d) v5 S4 p4 A4 (by omega)
  have S5 := f5.2.1 S4
  refine ⟨k5, ?_, ((((((f0.tr f1).tr f2).tr f3).tr f4).tr f5).mono (by simp) (by simp)), p5, ?_, A5⟩
  · refine lm_cal_of (Y := lm_m3) rfl rfl (lm_e3_0 ?_)
    unfold lm_q3_0
    rw [lm_bd_ok (lm_oI (e := 4412) (hS.cls lm_shM) h3 (by decide) rfl)]
    rw [show Int32.ofNat a + Int32.ofInt 20 = Int32.ofNat (a + 20) from lm_oa a 20]
    rw [lm_if_f (show ¬ lm_cmp .gt (Int32.ofNat (a + 20)) (Int32.ofInt 65536) from fun h9 => by
      have h9 : Int32.ofNat 65536 < Int32.ofNat (a + 20) := h9
      have := (lm_lt32 (by omega) (by omega)).mp h9
      omega)]
    refine lm_e3_18 ?_
    unfold lm_q3_18
    rw [lm_bd_ok (lm_osel (hS.cls lm_shM) (by decide) (y := 49) rfl)]
    rw [lm_bd_ok (lm_asI_ok (show lm_cal sc (d + 1) 49 [.ref 203, .int (Int32.ofInt 1), .int (Int32.ofInt 1)] (h, s) = _ from lm_t49 true 1 (hS.cls lm_shM) h4 (by decide)))]
    rw [lm_if_t (show lm_cmp .ne (lm_z true) 0 from (by decide : ¬ (1 : Int32) = 0))]
    rw [lm_bd_ok (lm_osel (S0.cls lm_shM) (by decide) (y := 50) rfl), lm_bd_ok (lm_asV_ok c1)]
    rw [lm_bd_ok (lm_osel (S1.cls lm_shM) (by decide) (y := 50) rfl), lm_bd_ok (lm_asV_ok c2)]
    rw [lm_bd_ok (lm_osel (S2.cls lm_shM) (by decide) (y := 50) rfl), lm_bd_ok (lm_asV_ok c3)]
    rw [lm_bd_ok (lm_osel (S3.cls lm_shM) (by decide) (y := 50) rfl), lm_bd_ok (lm_asV_ok c4)]
    rw [lm_bd_ok (lm_osel (S4.cls lm_shM) (by decide) (y := 50) rfl), lm_bd_ok (lm_asV_ok c5)]
    rw [lm_bd_ok (lm_oI (e := 4412) (S5.cls lm_shM) p5 (by decide) rfl)]
    rfl
  · rw [f5.2.2.2.2 _ _ (by decide), f4.2.2.2.2 _ _ (by decide), f3.2.2.2.2 _ _ (by decide), f2.2.2.2.2 _ _ (by decide), f1.2.2.2.2 _ _ (by decide)]
    exact g4
end LMFE
