/-! ===== the class's feed ===== -/
section LMFF
variable {sc h : lm_H} {s : Nat × Nat} {d a : Nat} {xs : List Int32}
theorem lm_t131' (v : Int32) {q : Nat} (hS : lm_Sh h) (ht : lm_shp[q]? = some (.inl (1, 65536))) (hA : lm_vA h q 1 = some xs) (hq : q < lm_B) (ha : a + 4 ≤ 65536) :
    lm_cal sc (d + 1) 131 [.int v, .ref q, .int (Int32.ofNat a)] (h, s) = some (.ok none, (lm_pA h q 1 (lm_pi v xs a), s)) ∧ lm_Fr [q] [] h (lm_pA h q 1 (lm_pi v xs a)) := by
  obtain ⟨xs', hA', hl, hby, -⟩ := hS.arr ht
  cases hA.symm.trans hA'
  exact ⟨lm_t131 (lm_vA_arr hA) hq (by omega) (by omega), lm_Fr.ofA hA ht ((lm_pi_len _ _ _).trans hl) (fun _ => lm_by_pi (hby rfl) _ _) (fun h => absurd h (by decide))⟩
theorem lm_t48 (v1 v2 v3 v4 v5 : Int32) (hS : lm_Sh h) (h1 : lm_vF h 2 1 = some (.int (Int32.ofNat a))) (hA : lm_vA h 3 1 = some xs) (ha : a + 20 ≤ 65536) :
    ∃ h', lm_cal sc (d + 2) 48 [.ref 0, .int v1, .int v2, .int v3, .int v4, .int v5] (h, s) = some (.ok (some (.int (Int32.ofNat (a + 20)))), (h', s)) ∧ lm_Fr [3] [(2, 1)] h h' ∧ lm_vF h' 2 1 = some (.int (Int32.ofNat (a + 20))) ∧ lm_vA h' 3 1 = some (lm_pi5 v1 v2 v3 v4 v5 xs a) := by
  have ht : lm_shp[3]? = some (.inl (1, 65536)) := rfl
  have hb : lm_shp[2]? = some (.inr (.inr (.inr (1, [7, 0])))) := rfl
  obtain ⟨c1, f1⟩ := lm_t131' (sc := sc) (s := s) (d := d) (a := a) v1 hS ht hA (by decide) (by omega)
  have A1 : lm_vA (lm_pA h 3 1 (lm_pi v1 xs a)) 3 1 = some (lm_pi v1 xs a) := lm_vA_pA_eq hA
  have S1 := f1.2.1 hS
  generalize lm_pA h 3 1 (lm_pi v1 xs a) = k1 at *
  obtain ⟨c2, f2⟩ := lm_t131' (sc := sc) (s := s) (d := d) (a := a + 4) v2 S1 ht A1 (by decide) (by omega)
  have A2 := lm_vA_pA_eq A1 (ys := lm_pi v2 (lm_pi v1 xs a) (a + 4))
  have S2 := f2.2.1 S1
  generalize lm_pA k1 3 1 (lm_pi v2 (lm_pi v1 xs a) (a + 4)) = k2 at *
  obtain ⟨c3, f3⟩ := lm_t131' (sc := sc) (s := s) (d := d) (a := a + 8) v3 S2 ht A2 (by decide) (by omega)
  have A3 := lm_vA_pA_eq A2 (ys := lm_pi v3 (lm_pi v2 (lm_pi v1 xs a) (a + 4)) (a + 8))
  have S3 := f3.2.1 S2
  generalize lm_pA k2 3 1 (lm_pi v3 (lm_pi v2 (lm_pi v1 xs a) (a + 4)) (a + 8)) = k3 at *
  obtain ⟨c4, f4⟩ := lm_t131' (sc := sc) (s := s) (d := d) (a := a + 12) v4 S3 ht A3 (by decide) (by omega)
  have A4 := lm_vA_pA_eq A3 (ys := lm_pi v4 (lm_pi v3 (lm_pi v2 (lm_pi v1 xs a) (a + 4)) (a + 8)) (a + 12))
  have S4 := f4.2.1 S3
  generalize lm_pA k3 3 1 (lm_pi v4 (lm_pi v3 (lm_pi v2 (lm_pi v1 xs a) (a + 4)) (a + 8)) (a + 12)) = k4 at *
  obtain ⟨c5, f5⟩ := lm_t131' (sc := sc) (s := s) (d := d) (a := a + 16) v5 S4 ht A4 (by decide) (by omega)
  have A5 := lm_vA_pA_eq A4 (ys := lm_pi5 v1 v2 v3 v4 v5 xs a)
  have S5 := f5.2.1 S4
  have e5 : lm_pA k4 3 1 (lm_pi v5 (lm_pi v4 (lm_pi v3 (lm_pi v2 (lm_pi v1 xs a) (a + 4)) (a + 8)) (a + 12)) (a + 16)) = lm_pA k4 3 1 (lm_pi5 v1 v2 v3 v4 v5 xs a) := rfl
  rw [e5] at c5 f5 S5
  generalize lm_pA k4 3 1 (lm_pi5 v1 v2 v3 v4 v5 xs a) = k5 at *
  have s1 : lm_vF k1 2 1 = some (.int (Int32.ofNat a)) := (f1.2.2.2.2 _ _ (by decide)).trans h1
  have s2 : lm_vF k2 2 1 = some (.int (Int32.ofNat a)) := (f2.2.2.2.2 _ _ (by decide)).trans s1
  have s3 : lm_vF k3 2 1 = some (.int (Int32.ofNat a)) := (f3.2.2.2.2 _ _ (by decide)).trans s2
  have s4 : lm_vF k4 2 1 = some (.int (Int32.ofNat a)) := (f4.2.2.2.2 _ _ (by decide)).trans s3
  have s5 : lm_vF k5 2 1 = some (.int (Int32.ofNat a)) := (f5.2.2.2.2 _ _ (by decide)).trans s4
  have f6 : lm_Fr [] [(2, 1)] k5 (lm_pf k5 2 1 (.int (Int32.ofNat (a + 20)))) := lm_Fr.ofF hb rfl ⟨_, rfl⟩
  have S6 := f6.2.1 S5
  have s6 : lm_vF (lm_pf k5 2 1 (.int (Int32.ofNat (a + 20)))) 2 1 = some (.int (Int32.ofNat (a + 20))) := lm_vF_pf_eq s5
  refine ⟨_, ?_, ((((((f1.tr f2).tr f3).tr f4).tr f5).tr f6).mono (by simp) (by simp)), s6, lm_vA_pf.trans A5⟩
  have bx : (0 : Nat) < lm_B := by decide
  have b2 : (2 : Nat) < lm_B := by decide
  refine lm_cal_of (Y := lm_m48) rfl rfl (lm_e48_0 ?_)
  unfold lm_q48_0
  rw [show Int32.ofInt 4 = Int32.ofNat 4 from lm_ofI 4, show Int32.ofInt 8 = Int32.ofNat 8 from lm_ofI 8, show Int32.ofInt 12 = Int32.ofNat 12 from lm_ofI 12, show Int32.ofInt 16 = Int32.ofNat 16 from lm_ofI 16, show Int32.ofInt 20 = Int32.ofNat 20 from lm_ofI 20]
  rw [lm_bd_ok (lm_oR (e := 6) (x := 2) (hS.cls lm_shx) (hS.ref lm_shx rfl) bx rfl), lm_bd_ok (lm_oI (e := 404) (hS.cls hb) h1 b2 rfl), lm_oo]
  rw [lm_if_t (show lm_cmp .le (Int32.ofNat (a + 20)) (Int32.ofInt 65536) from (show Int32.ofNat (a + 20) ≤ Int32.ofNat 65536 from (lm_le32 (by omega) (by decide)).mpr ha))]
  rw [lm_bd_ok (lm_oR (e := 6) (x := 2) (hS.cls lm_shx) (hS.ref lm_shx rfl) bx rfl), lm_bd_ok (lm_oR (e := 402) (x := 3) (hS.cls hb) (hS.ref hb rfl) b2 rfl), lm_bd_ok (lm_oR (e := 6) (x := 2) (hS.cls lm_shx) (hS.ref lm_shx rfl) bx rfl), lm_bd_ok (lm_oI (e := 404) (hS.cls hb) h1 b2 rfl), lm_bd_ok (lm_asV_ok c1)]
  rw [lm_bd_ok (lm_oR (e := 6) (x := 2) (S1.cls lm_shx) (S1.ref lm_shx rfl) bx rfl), lm_bd_ok (lm_oR (e := 402) (x := 3) (S1.cls hb) (S1.ref hb rfl) b2 rfl), lm_bd_ok (lm_oR (e := 6) (x := 2) (S1.cls lm_shx) (S1.ref lm_shx rfl) bx rfl), lm_bd_ok (lm_oI (e := 404) (S1.cls hb) s1 b2 rfl), lm_oo, lm_bd_ok (lm_asV_ok c2)]
  rw [lm_bd_ok (lm_oR (e := 6) (x := 2) (S2.cls lm_shx) (S2.ref lm_shx rfl) bx rfl), lm_bd_ok (lm_oR (e := 402) (x := 3) (S2.cls hb) (S2.ref hb rfl) b2 rfl), lm_bd_ok (lm_oR (e := 6) (x := 2) (S2.cls lm_shx) (S2.ref lm_shx rfl) bx rfl), lm_bd_ok (lm_oI (e := 404) (S2.cls hb) s2 b2 rfl), lm_oo, lm_bd_ok (lm_asV_ok c3)]
  rw [lm_bd_ok (lm_oR (e := 6) (x := 2) (S3.cls lm_shx) (S3.ref lm_shx rfl) bx rfl), lm_bd_ok (lm_oR (e := 402) (x := 3) (S3.cls hb) (S3.ref hb rfl) b2 rfl), lm_bd_ok (lm_oR (e := 6) (x := 2) (S3.cls lm_shx) (S3.ref lm_shx rfl) bx rfl), lm_bd_ok (lm_oI (e := 404) (S3.cls hb) s3 b2 rfl), lm_oo, lm_bd_ok (lm_asV_ok c4)]
  rw [lm_bd_ok (lm_oR (e := 6) (x := 2) (S4.cls lm_shx) (S4.ref lm_shx rfl) bx rfl), lm_bd_ok (lm_oR (e := 402) (x := 3) (S4.cls hb) (S4.ref hb rfl) b2 rfl), lm_bd_ok (lm_oR (e := 6) (x := 2) (S4.cls lm_shx) (S4.ref lm_shx rfl) bx rfl), lm_bd_ok (lm_oI (e := 404) (S4.cls hb) s4 b2 rfl), lm_oo, lm_bd_ok (lm_asV_ok c5)]
  rw [lm_bd_ok (lm_oR (e := 6) (x := 2) (S5.cls lm_shx) (S5.ref lm_shx rfl) bx rfl), lm_bd_ok (lm_oI (e := 404) (S5.cls hb) s5 b2 rfl), lm_oo, lm_bd_ok (lm_oP (e := 404) (S5.cls hb) s5 b2 rfl rfl)]
  rw [lm_bd_ok (lm_oR (e := 6) (x := 2) (S6.cls lm_shx) (S6.ref lm_shx rfl) bx rfl), lm_bd_ok (lm_oI (e := 404) (S6.cls hb) s6 b2 rfl)]
  rfl
end LMFF
