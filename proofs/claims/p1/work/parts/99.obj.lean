/-! ===== the class's hashes by kind ===== -/
def lm_obj (k : Nat) : Nat := if k = 1 ∨ k = 4 then 11 else if k ≤ 6 then 17 else 5
def lm_kso (k : Nat) : Nat := if k = 1 ∨ k = 4 then 15 else if k ≤ 6 then 21 else 10
def lm_fy (k : Nat) : Nat := if k = 1 ∨ k = 4 then 144 else if k ≤ 6 then 145 else 143
def lm_sy (k : Nat) : Nat := if k = 1 ∨ k = 4 then 201 else if k ≤ 6 then 202 else 200
/-- what the class's hash of kind k holds -/
def lm_CS (m : lm_MI) (n : lm_ML) (k : Nat) (h : lm_HV) : Prop := if k = 1 ∨ k = 4 then (lm_C11 m n k 64 h ∧ n 11 3 = h.2.1) else if k ≤ 6 then (lm_C17 m n k 128 h ∧ n 17 3 = h.2.1) else (lm_C5 m n k (lm_rate k) h ∧ n 5 3 = h.2.1 ∧ m 5 10 = lm_sfx k)
/-- outside the hashes, and the two rates -/
def lm_fC (m : lm_MI) (n : lm_ML) (m' : lm_MI) (n' : lm_ML) : Prop := (∀ q, q < 5 ∨ 22 < q → m' q = m q) ∧ (∀ q, q < 5 ∨ 22 < q → n' q = n q) ∧ m' 11 1 = m 11 1 ∧ m' 17 1 = m 17 1
theorem lm_fC.rf {m : lm_MI} {n : lm_ML} : lm_fC m n m n := ⟨fun _ _ => rfl, fun _ _ => rfl, rfl, rfl⟩
theorem lm_fC.tr {m m1 m2 : lm_MI} {n n1 n2 : lm_ML} (h : lm_fC m n m1 n1) (g : lm_fC m1 n1 m2 n2) : lm_fC m n m2 n2 := ⟨fun q a => (g.1 q a).trans (h.1 q a), fun q a => (g.2.1 q a).trans (h.2.1 q a), g.2.2.1.trans h.2.2.1, g.2.2.2.trans h.2.2.2⟩
theorem lm_kinds {k : Nat} (h1 : 1 ≤ k) (h2 : k ≤ 12) : (k = 1 ∨ k = 4) ∨ (¬ (k = 1 ∨ k = 4) ∧ k ≤ 6 ∧ (k = 2 ∨ k = 3 ∨ k = 5 ∨ k = 6)) ∨ (¬ (k = 1 ∨ k = 4) ∧ ¬ k ≤ 6 ∧ 6 < k) := by omega
/-- the starts of the reference are those of the class -/
def lm_Iok (n : lm_ML) : Prop := (∀ i, i < 16 → n 215 i = (lm_lst 2).getD i 0) ∧ (∀ i, i < 8 → n 217 i = (lm_lst 3).getD i 0) ∧ (∀ i, i < 8 → n 218 i = (lm_lst 4).getD i 0)
theorem lm_lo32 (v : Int64) : Int64.toInt32 (v &&& Int64.ofNat 4294967295) = Int64.toInt32 v := by
  apply Int32.toBitVec_inj.mp
  rw [lm_tI32, lm_tI32]
  show BitVec.setWidth 32 (v.toBitVec &&& 4294967295#64) = _
  refine BitVec.eq_of_getLsbD_eq fun i hi => ?_
  have e : ∀ j, j < 32 → (4294967295#64).getLsbD j = true := by decide
  rw [BitVec.getLsbD_setWidth, BitVec.getLsbD_setWidth, BitVec.getLsbD_and, e i hi, Bool.and_true]
section LMOB
variable {xs : List Int32} {d k : Nat} {m : lm_MI} {n : lm_ML} {x : lm_H × Nat × Nat} {h : lm_HV} {T : lm_TB}
theorem lm_fa.C {m' : lm_MI} {n' : lm_ML} (h1 : 1 ≤ k) (h2 : k ≤ 12) (f : lm_fa (lm_obj k) (lm_kso k) m n m' n') : lm_fC m n m' n' := by
  obtain ⟨a1, a2, a3, a4, a5, a6, a7⟩ := f
  rcases lm_kinds h1 h2 with c | ⟨c, c2, _⟩ | ⟨c, c2, _⟩
  · unfold lm_obj at a1 a2 a3
    rw [if_pos c] at a1 a2 a3
    exact ⟨fun q hq => a1 q (by omega), fun q hq => a2 q (by omega), a3 1 (by decide), by rw [a1 17 (by omega)]⟩
  · unfold lm_obj at a1 a2 a3
    rw [if_neg c, if_pos c2] at a1 a2 a3
    exact ⟨fun q hq => a1 q (by omega), fun q hq => a2 q (by omega), by rw [a1 11 (by omega)], a3 1 (by decide)⟩
  · unfold lm_obj at a1 a2 a3
    rw [if_neg c, if_neg c2] at a1 a2 a3
    exact ⟨fun q hq => a1 q (by omega), fun q hq => a2 q (by omega), by rw [a1 11 (by omega)], by rw [a1 17 (by omega)]⟩
theorem lm_selA {β : Type} {f : Nat → lm_M β} {r : Option (Except Nat β × lm_S)} (h1 : 1 ≤ k) (h2 : k ≤ 12) (K : f 140 (lm_w m n x) = r) : lm_bind (lm_sel [(5, 140), (6, 140), (7, 140)] (some (.ref (lm_obj k)))) f (lm_w m n x) = r := by
  unfold lm_obj
  rcases lm_kinds h1 h2 with c | ⟨c, c2, _⟩ | ⟨c, c2, _⟩
  · rw [if_pos c]; exact lm_sS rfl rfl K
  · rw [if_neg c, if_pos c2]; exact lm_sS rfl rfl K
  · rw [if_neg c, if_neg c2]; exact lm_sS rfl rfl K
theorem lm_selF {β : Type} {f : Nat → lm_M β} {r : Option (Except Nat β × lm_S)} (h1 : 1 ≤ k) (h2 : k ≤ 12) (K : f (lm_fy k) (lm_w m n x) = r) : lm_bind (lm_sel [(5, 143), (6, 144), (7, 145)] (some (.ref (lm_obj k)))) f (lm_w m n x) = r := by
  unfold lm_obj
  unfold lm_fy at K
  rcases lm_kinds h1 h2 with c | ⟨c, c2, _⟩ | ⟨c, c2, _⟩
  · rw [if_pos c]; rw [if_pos c] at K; exact lm_sS rfl rfl K
  · rw [if_neg c, if_pos c2]; rw [if_neg c, if_pos c2] at K; exact lm_sS rfl rfl K
  · rw [if_neg c, if_neg c2]; rw [if_neg c, if_neg c2] at K; exact lm_sS rfl rfl K
theorem lm_selS {β : Type} {f : Nat → lm_M β} {r : Option (Except Nat β × lm_S)} (h1 : 1 ≤ k) (h2 : k ≤ 12) (K : f (lm_sy k) (lm_w m n x) = r) : lm_bind (lm_sel [(5, 200), (6, 201), (7, 202)] (some (.ref (lm_obj k)))) f (lm_w m n x) = r := by
  unfold lm_obj
  unfold lm_sy at K
  rcases lm_kinds h1 h2 with c | ⟨c, c2, _⟩ | ⟨c, c2, _⟩
  · rw [if_pos c]; rw [if_pos c] at K; exact lm_sS rfl rfl K
  · rw [if_neg c, if_pos c2]; rw [if_neg c, if_pos c2] at K; exact lm_sS rfl rfl K
  · rw [if_neg c, if_neg c2]; rw [if_neg c, if_neg c2] at K; exact lm_sS rfl rfl K
theorem lm_rate_k (h1 : 1 ≤ k) (h2 : k ≤ 12) : lm_rate k = if k = 1 ∨ k = 4 then 64 else if k ≤ 6 then 128 else lm_rate k := by
  unfold lm_rate
  rcases lm_kinds h1 h2 with c | ⟨c, c2, _⟩ | ⟨c, c2, _⟩
  · simp only [if_neg (show ¬ k = 11 by omega), if_neg (show ¬ k = 12 by omega), if_pos (show k ≤ 6 by omega), if_pos c]
  · simp only [if_neg (show ¬ k = 11 by omega), if_neg (show ¬ k = 12 by omega), if_pos c2, if_neg c]
  · simp only [if_neg c, if_neg c2]
/-- start, of the object itself -/
theorem lm_csto (h1 : 1 ≤ k) (h2 : k ≤ 12) (g1 : m 11 1 = Int32.ofNat 64) (g2 : m 17 1 = Int32.ofNat 128) {nr : lm_ML} (hI : lm_Iok nr) {J : Nat → Int64} {b : Nat → Int32} : ∃ m' n', lm_cal (lm_sc xs) (d + 2) (lm_sy k) [.ref (lm_obj k), .int (Int32.ofNat k)] (lm_w m n x) = some (.ok none, lm_w m' n' x) ∧ lm_CS m' n' k (0, Int64.ofNat 0, lm_st0' (nr 215) (nr 217) (nr 218) k J, b) ∧ lm_fC m n m' n' := by
  obtain ⟨i1, i2, i3⟩ := hI
  unfold lm_sy lm_obj lm_CS
  rcases lm_kinds h1 h2 with c | ⟨c, c2, c3⟩ | ⟨c, c2, c3⟩
  · simp only [if_pos c]
    refine ⟨_, _, lm_u201 (d := d) c, ⟨⟨by omega, rfl, ?_, lm_u_eq, fun i hi => ?_, fun i hi => absurd hi (by show ¬ i < 0; omega)⟩, lm_u_eq⟩, fun q hq => by rw [lm_u_row (by omega), lm_fl_row (by omega)], fun q hq => lm_u_row (by omega), ?_, ?_⟩
    · rw [lm_u_ne (by decide), lm_fl_row (by decide)]; exact g1
    · rw [lm_u_row (by decide), lm_fl_in (by omega)]
      show lm_iv2 k i = Int64.toInt32 (lm_st0' _ _ _ k J i)
      unfold lm_st0' lm_ini lm_iv2
      rw [if_pos (show i < 25 by omega), if_pos (show k ≤ 6 ∧ i < 8 by omega)]
      rcases c with c | c
      · rw [if_neg (by omega), if_pos c, i1 i (by omega)]
      · rw [if_pos c, if_neg (by omega), if_pos c, i1 (8 + i) (by omega), lm_lo32]
    · rw [lm_u_ne (by decide), lm_fl_row (by decide)]
    · rw [lm_u_row (by decide), lm_fl_row (by decide)]
  · simp only [if_neg c, if_pos c2]
    refine ⟨_, _, lm_u202 (d := d) c3, ⟨⟨by omega, rfl, ?_, lm_u_eq, fun i hi => ?_, fun i hi => absurd hi (by show ¬ i < 0; omega)⟩, lm_u_eq⟩, fun q hq => lm_u_row (by omega), fun q hq => by rw [lm_u_row (by omega), lm_fl_row (by omega)], ?_, ?_⟩
    · rw [lm_u_ne (by decide)]; exact g2
    · rw [lm_u_row (by decide), lm_fl_in (by omega)]
      show lm_iv5 k i = lm_st0' _ _ _ k J i
      unfold lm_st0' lm_ini lm_iv5
      rw [if_pos (show i < 25 by omega), if_pos (show k ≤ 6 ∧ i < 8 by omega), if_neg (show ¬ k = 1 by omega), if_neg (show ¬ k = 4 by omega)]
      rcases c3 with c | c | c | c
      · rw [if_neg (by omega), if_neg (by omega), if_pos c, if_pos c, i1 (8 + i) (by omega)]
      · rw [if_neg (by omega), if_neg (by omega), if_neg (by omega), if_neg (by omega), if_neg (by omega), if_neg (by omega), i1 i (by omega)]
      · rw [if_pos c, if_neg (by omega), if_pos c, i2 i hi]
      · rw [if_neg (by omega), if_pos c, if_neg (by omega), if_neg (by omega), if_pos c, i3 i hi]
    · rw [lm_u_row (by decide)]
    · rw [lm_u_ne (by decide)]
  · simp only [if_neg c, if_neg c2]
    have hd := lm_dg_le k
    have hrt : lm_rate k % 8 = 0 ∧ 64 ≤ lm_rate k ∧ lm_rate k ≤ 168 := by
      match k, c3, h2 with
      | 7, _, _ => decide
      | 8, _, _ => decide
      | 9, _, _ => decide
      | 10, _, _ => decide
      | 11, _, _ => decide
      | 12, _, _ => decide
    refine ⟨_, _, lm_u200 (d := d) c3 h2, ⟨⟨c3, hrt.1, hrt.2.1, hrt.2.2, ?_, lm_u_eq, fun i hi => ?_⟩, lm_u_eq, ?_⟩, fun q hq => by rw [lm_u_row (by omega), lm_u_row (by omega), lm_u_row (by omega)], fun q hq => by rw [lm_u_row (by omega), lm_fl_row (by omega)], ?_, ?_⟩
    · rw [lm_u_ne (by decide), lm_u_ne (by decide), lm_u_eq]
    · show lm_st0' _ _ _ k J i = lm_u (lm_fil n 8 0 25 fun _ => Int64.ofNat 0) 5 3 (Int64.ofNat 0) 8 i
      rw [lm_u_row (by decide), lm_fl_in (by omega)]
      unfold lm_st0'
      rw [if_pos hi, if_neg (by omega)]
    · rw [lm_u_ne (by decide), lm_u_eq]
    · rw [lm_u_row (by decide), lm_u_row (by decide), lm_u_row (by decide)]
    · rw [lm_u_row (by decide), lm_u_row (by decide), lm_u_row (by decide)]
theorem lm_cstt (h1 : 1 ≤ k) (h2 : k ≤ 12) (g1 : m 11 1 = Int32.ofNat 64) (g2 : m 17 1 = Int32.ofNat 128) {nr : lm_ML} (hI : lm_Iok nr) {J : Nat → Int64} {b : Nat → Int32} : ∃ m' n', lm_cal (lm_sc xs) (d + 3) 139 [.ref 4, .int (Int32.ofNat k)] (lm_w m n x) = some (.ok (some (.ref (lm_obj k))), lm_w m' n' x) ∧ lm_CS m' n' k (0, Int64.ofNat 0, lm_st0' (nr 215) (nr 217) (nr 218) k J, b) ∧ lm_fC m n m' n' := by
  obtain ⟨m', n', e, c, f⟩ := lm_csto (xs := xs) (d := d) (x := x) (m := m) (n := n) h1 h2 g1 g2 hI (J := J) (b := b)
  refine ⟨m', n', ?_, c, f⟩
  refine lm_cal_of (Y := lm_m139) rfl rfl (lm_e139_0 ?_)
  unfold lm_q139_0
  repeat (first
    | ((with_reducible apply lm_sI); exact rfl)
    | ((with_reducible apply lm_sR); exact rfl)
    | ((with_reducible apply lm_sS); exact rfl; exact rfl)
    | ((with_reducible apply lm_sL); exact rfl)
    | ((with_reducible apply lm_sP); exact rfl; exact rfl)
    | ((with_reducible apply lm_sPL); exact rfl; exact rfl)
    | ((with_reducible apply lm_sAA); exact rfl; first | exact rfl | exact lm_roO (by omega) | exact lm_roM (by omega))
    | ((with_reducible apply lm_sI); exact lm_fpL (by omega))
    | ((with_reducible apply lm_sR); exact lm_fpB (by omega))
    | ((with_reducible apply lm_sP); exact lm_fpL (by omega); exact rfl)
    | ((with_reducible apply lm_sS); exact lm_ocO (by omega); exact rfl)
    | ((with_reducible apply lm_sA); exact rfl; omega)
    | ((with_reducible apply lm_sJ); exact rfl; omega)
    | ((with_reducible apply lm_sB); (first | exact rfl | exact lm_arB (by omega) | exact lm_arM (by omega)); omega)
    | ((with_reducible apply lm_wA); exact rfl; omega)
    | ((with_reducible apply lm_wJ); exact rfl; omega)
    | ((with_reducible apply lm_wB); (first | exact rfl | exact lm_arB (by omega) | exact lm_arM (by omega)); omega)
    | ((with_reducible apply lm_sAl); (first | exact rfl | exact lm_arB (by omega) | exact lm_arM (by omega)); omega)
    | ((with_reducible apply lm_iW); decide))
  refine lm_cR (lm_u204 (d := d + 1) h2 h1) ?_
  refine lm_selS h1 h2 ?_
  refine lm_cV e ?_
  exact rfl
theorem lm_cadd (hT : lm_Tok (lm_sc xs) T) (h1 : 1 ≤ k) (h2 : k ≤ 12) {q v a l : Nat} (hq : q < 5 ∨ 22 < q) (har : lm_ar q = some (1, v)) (hal : a + l ≤ v) (hv : v ≤ 70000) (hf : h.1 < lm_rate k) (hC : lm_CS m n k h) : ∃ m' n', lm_cal (lm_sc xs) (d + 4) 140 [.ref (lm_obj k), .ref q, .int (Int32.ofNat a), .int (Int32.ofNat l)] (lm_w m n x) = some (.ok none, lm_w m' n' x) ∧ lm_CS m' n' k (lm_hps T k (lm_rate k) (fun i => lm_b8 (m q i)) l a h) ∧ lm_fa (lm_obj k) (lm_kso k) m n m' n' := by
  have tt : ∀ r, (lm_hps T k r (fun i => lm_b8 (m q i)) l a h).2.1 = h.2.1 + Int64.ofNat l := by
    intro r
    have aux : ∀ (g : Nat → Int32) c a (h : lm_HV), (lm_hps T k r g c a h).2.1 = h.2.1 + Int64.ofNat c := by
      intro g c
      induction c with
      | zero => intro a h; show h.2.1 = h.2.1 + Int64.ofNat 0; simp
      | succ c ih =>
        intro a h
        refine (ih (a + 1) _).trans ?_
        have e : (lm_hp T k r (g a) h).2.1 = h.2.1 + Int64.ofNat 1 := by
          unfold lm_hp
          by_cases c : h.1 + 1 = r
          · rw [if_pos c]
          · rw [if_neg c]
        rw [e, Int64.add_assoc, ← Int64.ofNat_add, Nat.add_comm 1 c]
    exact aux _ l a h
  have hrk := lm_rate_k h1 h2
  unfold lm_CS at hC ⊢
  unfold lm_obj lm_kso
  rcases lm_kinds h1 h2 with c | ⟨c, c2, c3⟩ | ⟨c, c2, c3⟩
  · rw [if_pos c] at hC hrk
    rw [hrk] at hf ⊢
    obtain ⟨m', n', e, C, t, f⟩ := lm_u140_11 (sc := lm_sc xs) (d := d) (x := x) hT (by omega) har hal hv hf hC.1 hC.2
    simp only [if_pos c]
    exact ⟨m', n', e, ⟨C, by rw [t, tt]⟩, f⟩
  · rw [if_neg c, if_pos c2] at hC hrk
    rw [hrk] at hf ⊢
    obtain ⟨m', n', e, C, t, f⟩ := lm_u140_17 (sc := lm_sc xs) (d := d) (x := x) hT (by omega) har hal hv hf hC.1 hC.2
    simp only [if_neg c, if_pos c2]
    exact ⟨m', n', e, ⟨C, by rw [t, tt]⟩, f⟩
  · rw [if_neg c, if_neg c2] at hC
    obtain ⟨m', n', e, C, t, f⟩ := lm_u140_5 (sc := lm_sc xs) (d := d) (x := x) hT (by omega) har hal hv hf hC.1 hC.2.1
    simp only [if_neg c, if_neg c2]
    exact ⟨m', n', e, ⟨C, by rw [t, tt], by rw [f.2.2.1 10 (by decide)]; exact hC.2.2⟩, f⟩
theorem lm_cfin (hT : lm_Tok (lm_sc xs) T) (h1 : 1 ≤ k) (h2 : k ≤ 12) {q v a l : Nat} (hq : q < 5 ∨ 22 < q) (har : lm_ar q = some (1, v)) (hal : a + l ≤ v) (hv : v ≤ 70000) (hl : k ≤ 6 → l ≤ 64 ∧ (lm_rate k = 64 → l ≤ 32)) (hf : h.1 < lm_rate k) (hC : lm_CS m n k h) : ∃ m' n', lm_cal (lm_sc xs) (d + 4) (lm_fy k) [.ref (lm_obj k), .ref q, .int (Int32.ofNat a), .int (Int32.ofNat l)] (lm_w m n x) = some (.ok none, lm_w (lm_fil m' q a (a + l) (fun i => lm_ou T k (lm_rate k) (lm_hf T k (lm_rate k) h).2.2.1 (i - a))) n' x) ∧ lm_fa (lm_obj k) (lm_kso k) m n m' n' := by
  have hrk := lm_rate_k h1 h2
  unfold lm_CS at hC
  unfold lm_obj lm_kso lm_fy lm_ou
  rcases lm_kinds h1 h2 with c | ⟨c, c2, c3⟩ | ⟨c, c2, c3⟩
  · rw [if_pos c] at hC hrk
    rw [hrk] at hf hl ⊢
    obtain ⟨m', n', e, f⟩ := lm_u144 (sc := lm_sc xs) (d := d) (x := x) hT (by omega) har hal hv ((hl (by omega)).2 rfl) hf hC.1 hC.2
    simp only [if_pos c, if_neg (show ¬ 6 < k by omega), if_true]
    exact ⟨m', n', e, f⟩
  · rw [if_neg c, if_pos c2] at hC hrk
    rw [hrk] at hf hl ⊢
    obtain ⟨m', n', e, f⟩ := lm_u145 (sc := lm_sc xs) (d := d) (x := x) hT (by omega) har hal hv (hl c2).1 hf hC.1 hC.2
    simp only [if_neg c, if_pos c2, if_neg (show ¬ 6 < k by omega), if_neg (show ¬ 128 = 64 by decide)]
    exact ⟨m', n', e, f⟩
  · rw [if_neg c, if_neg c2] at hC
    obtain ⟨m', n', e, f⟩ := lm_u143 (sc := lm_sc xs) (d := d) (x := x) hT (by omega) har hal hv hf hC.1 hC.2.2
    simp only [if_neg c, if_neg c2, if_pos c3]
    exact ⟨m', n', e, f⟩
end LMOB
