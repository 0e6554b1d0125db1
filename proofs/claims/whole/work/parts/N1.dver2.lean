/-! ===== dsaVerify of the class: the packet is taken; rows are recovered; hints are applied ===== -/
def lm_vz (Q : Nat → Int32) (s t c : Nat) : Int := (lm_dg1 s : Int) - (ln_bv (ln_bt (fun j => Q (lm_dsz s + 32 * lm_dw s * t + j))) (c * lm_dw s) (lm_dw s) : Nat)
theorem lm_vz_b {Q : Nat → Int32} {s t c : Nat} (hs : s ≤ 2) : -524288 ≤ lm_vz Q s t c ∧ lm_vz Q s t c ≤ 524288 := by
  have hpar := lm_dpar s hs
  have : ln_bv (ln_bt (fun j => Q (lm_dsz s + 32 * lm_dw s * t + j))) (c * lm_dw s) (lm_dw s) < 2 ^ lm_dw s := lm_bv_lt
  unfold lm_vz
  omega
def lm_vzo (Q : Nat → Int32) (s : Nat) : Prop := ∀ t, t < lm_dl s → ∀ c, c < 256 → -((lm_dg1 s - lm_be s : Nat) : Int) < lm_vz Q s t c ∧ lm_vz Q s t c < (lm_dg1 s - lm_be s : Nat)
/-- the packet can be taken -/
def lm_vt (Q : Nat → Int32) (s pl : Nat) : Prop := pl = lm_dps s ∧ lm_ho' (lm_vh Q s) (lm_vc Q s) (lm_do s) (lm_dk s) ∧ lm_vzo Q s
section LMVB
variable {xs : List Int32} {C : lm_CX} {d s pl : Nat} {m : lm_MI} {n : lm_ML} {x : lm_H × Nat × Nat}
set_option maxRecDepth 100000 in
theorem lm_u174 (hs : s ≤ 2) (h : lm_DC m s) (h1 : m 36 1 = Int32.ofNat pl) (hpl : pl ≤ 65536) : (∃ m', lm_cal (lm_sc xs) (d + 4) 174 [.ref 76, .ref 36] (lm_w m n x) = some (.ok (some (.int 1)), lm_w m' n x) ∧ lm_vt (m 37) s pl ∧ (∀ r, (r < 161 ∨ 167 < r) → m' r = m r) ∧ ∀ t, t < lm_dl s → ∀ c, c < 256 → m' (161 + t) c = Int32.ofInt (lm_vz (m 37) s t c)) ∨ ∃ m', lm_cal (lm_sc xs) (d + 4) 174 [.ref 76, .ref 36] (lm_w m n x) = some (.ok (some (.int 0)), lm_w m' n x) ∧ ¬ lm_vt (m 37) s pl ∧ ∀ r, (r < 161 ∨ 167 < r) → m' r = m r := by
  have hkl := lm_dkl hs
  have hpar := lm_dpar s hs
  have hP := lm_vPb hs
  have hps := lm_dps_e s
  have u248 := lm_u248 (xs := xs) (d := d + 1) (m := m) (n := n) (x := x) hs h
  by_cases cs : pl = lm_dps s
  · rcases lm_u249 (xs := xs) (d := d) (m := m) (n := n) (x := x) hs h with ⟨u249, ho⟩ | ⟨u249, ho⟩
    · have head : ∀ R, lm_rn (lm_sc xs) (d + 3) lm_m174.2.2.2.2.1 (lm_reg lm_m174.2.2.2.2.2) (46, [(0, .ref 76), (1, .ref 36), (2, .int (Int32.ofNat (lm_dg1 s - lm_be s))), (3, .int (Int32.ofNat (lm_dw s))), (4, .int (Int32.ofNat 0))], []) (lm_w m n x) = some R → lm_cal (lm_sc xs) (d + 4) 174 [.ref 76, .ref 36] (lm_w m n x) = some R := by
        intro R K
        refine lm_cal_of (Y := lm_m174) rfl rfl (lm_e174_0 ?_)
        unfold lm_q174_0
        repeat (first
    | ((with_reducible apply lm_sI); exact rfl)
    | ((with_reducible apply lm_sR); exact rfl)
    | ((with_reducible apply lm_sS); exact rfl; exact rfl)
    | ((with_reducible apply lm_sL); exact rfl)
    | ((with_reducible apply lm_sP); exact rfl; exact rfl)
    | ((with_reducible apply lm_sPL); exact rfl; exact rfl)
    | ((with_reducible apply lm_sAA); exact rfl; exact rfl)
    | ((with_reducible apply lm_sA); (first | exact rfl | assumption); omega)
    | ((with_reducible apply lm_sJ); (first | exact rfl | assumption); omega)
    | ((with_reducible apply lm_sB); (first | exact rfl | assumption); omega)
    | ((with_reducible apply lm_wA); (first | exact rfl | assumption); omega)
    | ((with_reducible apply lm_wJ); (first | exact rfl | assumption); omega)
    | ((with_reducible apply lm_wB); (first | exact rfl | assumption); omega)
    | ((with_reducible apply lm_sAl); (first | exact rfl | assumption); omega)
    | ((with_reducible apply lm_iW); decide))
        refine lm_cI u248 ?_
        simp only [Nat.reduceDiv, Nat.reduceMod]
        rw [h1]
        refine lm_neF (by omega) (by omega) (fun g => g cs) ?_
        repeat (first
    | ((with_reducible apply lm_sI); exact rfl)
    | ((with_reducible apply lm_sR); exact rfl)
    | ((with_reducible apply lm_sS); exact rfl; exact rfl)
    | ((with_reducible apply lm_sL); exact rfl)
    | ((with_reducible apply lm_sP); exact rfl; exact rfl)
    | ((with_reducible apply lm_sPL); exact rfl; exact rfl)
    | ((with_reducible apply lm_sAA); exact rfl; exact rfl)
    | ((with_reducible apply lm_sA); (first | exact rfl | assumption); omega)
    | ((with_reducible apply lm_sJ); (first | exact rfl | assumption); omega)
    | ((with_reducible apply lm_sB); (first | exact rfl | assumption); omega)
    | ((with_reducible apply lm_wA); (first | exact rfl | assumption); omega)
    | ((with_reducible apply lm_wJ); (first | exact rfl | assumption); omega)
    | ((with_reducible apply lm_wB); (first | exact rfl | assumption); omega)
    | ((with_reducible apply lm_sAl); (first | exact rfl | assumption); omega)
    | ((with_reducible apply lm_iW); decide))
        refine lm_cI u249 ?_
        refine lm_iT (show ¬ (1 : Int32) = 0 by decide) ?_
        repeat (first
    | ((with_reducible apply lm_sI); exact rfl)
    | ((with_reducible apply lm_sR); exact rfl)
    | ((with_reducible apply lm_sS); exact rfl; exact rfl)
    | ((with_reducible apply lm_sL); exact rfl)
    | ((with_reducible apply lm_sP); exact rfl; exact rfl)
    | ((with_reducible apply lm_sPL); exact rfl; exact rfl)
    | ((with_reducible apply lm_sAA); exact rfl; exact rfl)
    | ((with_reducible apply lm_sA); (first | exact rfl | assumption); omega)
    | ((with_reducible apply lm_sJ); (first | exact rfl | assumption); omega)
    | ((with_reducible apply lm_sB); (first | exact rfl | assumption); omega)
    | ((with_reducible apply lm_wA); (first | exact rfl | assumption); omega)
    | ((with_reducible apply lm_wJ); (first | exact rfl | assumption); omega)
    | ((with_reducible apply lm_wB); (first | exact rfl | assumption); omega)
    | ((with_reducible apply lm_sAl); (first | exact rfl | assumption); omega)
    | ((with_reducible apply lm_iW); decide))
        simp only [Nat.reduceDiv, Nat.reduceMod]
        rw [h.1]
        refine ln_tb11 hs ?_
        repeat (first
    | ((with_reducible apply lm_sI); exact rfl)
    | ((with_reducible apply lm_sR); exact rfl)
    | ((with_reducible apply lm_sS); exact rfl; exact rfl)
    | ((with_reducible apply lm_sL); exact rfl)
    | ((with_reducible apply lm_sP); exact rfl; exact rfl)
    | ((with_reducible apply lm_sPL); exact rfl; exact rfl)
    | ((with_reducible apply lm_sAA); exact rfl; exact rfl)
    | ((with_reducible apply lm_sA); (first | exact rfl | assumption); omega)
    | ((with_reducible apply lm_sJ); (first | exact rfl | assumption); omega)
    | ((with_reducible apply lm_sB); (first | exact rfl | assumption); omega)
    | ((with_reducible apply lm_wA); (first | exact rfl | assumption); omega)
    | ((with_reducible apply lm_wJ); (first | exact rfl | assumption); omega)
    | ((with_reducible apply lm_wB); (first | exact rfl | assumption); omega)
    | ((with_reducible apply lm_sAl); (first | exact rfl | assumption); omega)
    | ((with_reducible apply lm_iW); decide))
        refine lm_cI (lm_u250 (d := d + 2) hs h.1) ?_
        repeat (first
    | ((with_reducible apply lm_sI); exact rfl)
    | ((with_reducible apply lm_sR); exact rfl)
    | ((with_reducible apply lm_sS); exact rfl; exact rfl)
    | ((with_reducible apply lm_sL); exact rfl)
    | ((with_reducible apply lm_sP); exact rfl; exact rfl)
    | ((with_reducible apply lm_sPL); exact rfl; exact rfl)
    | ((with_reducible apply lm_sAA); exact rfl; exact rfl)
    | ((with_reducible apply lm_sA); (first | exact rfl | assumption); omega)
    | ((with_reducible apply lm_sJ); (first | exact rfl | assumption); omega)
    | ((with_reducible apply lm_sB); (first | exact rfl | assumption); omega)
    | ((with_reducible apply lm_wA); (first | exact rfl | assumption); omega)
    | ((with_reducible apply lm_wJ); (first | exact rfl | assumption); omega)
    | ((with_reducible apply lm_wB); (first | exact rfl | assumption); omega)
    | ((with_reducible apply lm_sAl); (first | exact rfl | assumption); omega)
    | ((with_reducible apply lm_iW); decide))
        refine lm_cI (lm_u251 (d := d + 2) hs h.1) ?_
        rw [lm_osu (by omega), lm_K0]
        exact K
      rcases lm_lpe (sc := lm_sc xs) (d := d + 3) (b := lm_dl s) (hs := lm_m174.2.2.2.2.1) (code := lm_reg lm_m174.2.2.2.2.2) (x := x) (fr := fun t => (46, [(0, .ref 76), (1, .ref 36), (2, .int (Int32.ofNat (lm_dg1 s - lm_be s))), (3, .int (Int32.ofNat (lm_dw s))), (4, .int (Int32.ofNat t))], [])) (I := fun t m' n' => n' = n ∧ (∀ r, (r < 161 ∨ 167 < r) → m' r = m r) ∧ ∀ t', t' < t → ∀ c, c < 256 → m' (161 + t') c = Int32.ofInt (lm_vz (m 37) s t' c) ∧ -((lm_dg1 s - lm_be s : Nat) : Int) < lm_vz (m 37) s t' c ∧ lm_vz (m 37) s t' c < (lm_dg1 s - lm_be s : Nat)) (E := fun R => ∃ m', R = (.ok (some (.int 0)), lm_w m' n x) ∧ (∀ r, (r < 161 ∨ 167 < r) → m' r = m r) ∧ ¬ lm_vzo (m 37) s) (fun t ht m1 n1 ⟨en, g1, g2⟩ => by
        subst en
        have ha : 32 * lm_dw s * (t + 1) ≤ 32 * lm_dw s * lm_dl s := Nat.mul_le_mul_left _ ht
        rw [Nat.mul_succ] at ha
        have e76 : m1 76 = m 76 := g1 76 (by omega)
        have a7 := lm_arM7 t (by omega)
        have r7 := lm_roM7 t (by omega)
        have aM := a7.1
        obtain ⟨m2, c2, p2⟩ := lm_u252 (sc := lm_sc xs) (d := d + 1) (m := m1) (n := n1) (x := x) (q := 37) (v := 65536) (p := 161 + t) (a := lm_dsz s + 32 * lm_dw s * t) (bits := lm_dw s) (B := (lm_dg1 s : Int)) (by omega) rfl (by decide) a7.1 (by omega) (by omega) (by omega) (by omega)
        rw [g1 37 (by omega)] at p2
        have p2' : ∀ c, c < 256 → m2 (161 + t) c = Int32.ofInt (lm_vz (m 37) s t c) := fun c hc => by rw [p2.2 c hc]; rfl
        have run : ∀ R, lm_rn (lm_sc xs) (d + 3) lm_m174.2.2.2.2.1 (lm_reg lm_m174.2.2.2.2.2) (98, [(0, .ref 76), (1, .ref 36), (2, .int (Int32.ofNat (lm_dg1 s - lm_be s))), (3, .int (Int32.ofNat (lm_dw s))), (4, .int (Int32.ofNat t)), (5, .int (Int32.ofNat 0))], []) (lm_w m2 n1 x) = some R → lm_rn (lm_sc xs) (d + 3) lm_m174.2.2.2.2.1 (lm_reg lm_m174.2.2.2.2.2) (46, [(0, .ref 76), (1, .ref 36), (2, .int (Int32.ofNat (lm_dg1 s - lm_be s))), (3, .int (Int32.ofNat (lm_dw s))), (4, .int (Int32.ofNat t))], []) (lm_w m1 n1 x) = some R := by
          intro R K
          clear g2 p2'
          refine lm_e174_46 ?_
          unfold lm_q174_46
          repeat (first
    | ((with_reducible apply lm_sI); exact rfl)
    | ((with_reducible apply lm_sR); exact rfl)
    | ((with_reducible apply lm_sS); exact rfl; exact rfl)
    | ((with_reducible apply lm_sL); exact rfl)
    | ((with_reducible apply lm_sP); exact rfl; exact rfl)
    | ((with_reducible apply lm_sPL); exact rfl; exact rfl)
    | ((with_reducible apply lm_sAA); exact rfl; exact rfl)
    | ((with_reducible apply lm_sA); (first | exact rfl | assumption); omega)
    | ((with_reducible apply lm_sJ); (first | exact rfl | assumption); omega)
    | ((with_reducible apply lm_sB); (first | exact rfl | assumption); omega)
    | ((with_reducible apply lm_wA); (first | exact rfl | assumption); omega)
    | ((with_reducible apply lm_wJ); (first | exact rfl | assumption); omega)
    | ((with_reducible apply lm_wB); (first | exact rfl | assumption); omega)
    | ((with_reducible apply lm_sAl); (first | exact rfl | assumption); omega)
    | ((with_reducible apply lm_iW); decide))
          simp only [Nat.reduceDiv, Nat.reduceMod]
          rw [e76, h.2.2]
          refine lm_geF (by omega) (by omega) (by omega) ?_
          repeat (first
    | ((with_reducible apply lm_sI); exact rfl)
    | ((with_reducible apply lm_sR); exact rfl)
    | ((with_reducible apply lm_sS); exact rfl; exact rfl)
    | ((with_reducible apply lm_sL); exact rfl)
    | ((with_reducible apply lm_sP); exact rfl; exact rfl)
    | ((with_reducible apply lm_sPL); exact rfl; exact rfl)
    | ((with_reducible apply lm_sAA); exact rfl; exact rfl)
    | ((with_reducible apply lm_sA); (first | exact rfl | assumption); omega)
    | ((with_reducible apply lm_sJ); (first | exact rfl | assumption); omega)
    | ((with_reducible apply lm_sB); (first | exact rfl | assumption); omega)
    | ((with_reducible apply lm_wA); (first | exact rfl | assumption); omega)
    | ((with_reducible apply lm_wJ); (first | exact rfl | assumption); omega)
    | ((with_reducible apply lm_wB); (first | exact rfl | assumption); omega)
    | ((with_reducible apply lm_sAl); (first | exact rfl | assumption); omega)
    | ((with_reducible apply lm_iW); decide))
          simp only [Nat.reduceDiv, Nat.reduceMod]
          rw [e76, h.1]
          refine ln_tb11 hs ?_
          repeat (first
    | ((with_reducible apply lm_sI); exact rfl)
    | ((with_reducible apply lm_sR); exact rfl)
    | ((with_reducible apply lm_sS); exact rfl; exact rfl)
    | ((with_reducible apply lm_sL); exact rfl)
    | ((with_reducible apply lm_sP); exact rfl; exact rfl)
    | ((with_reducible apply lm_sPL); exact rfl; exact rfl)
    | ((with_reducible apply lm_sAA); exact rfl; exact rfl)
    | ((with_reducible apply lm_sA); (first | exact rfl | assumption); omega)
    | ((with_reducible apply lm_sJ); (first | exact rfl | assumption); omega)
    | ((with_reducible apply lm_sB); (first | exact rfl | assumption); omega)
    | ((with_reducible apply lm_wA); (first | exact rfl | assumption); omega)
    | ((with_reducible apply lm_wJ); (first | exact rfl | assumption); omega)
    | ((with_reducible apply lm_wB); (first | exact rfl | assumption); omega)
    | ((with_reducible apply lm_sAl); (first | exact rfl | assumption); omega)
    | ((with_reducible apply lm_iW); decide))
          simp only [Nat.reduceDiv, Nat.reduceMod]
          rw [e76, h.1]
          refine ln_tb13 hs ?_
          repeat (first
    | ((with_reducible apply lm_sI); exact rfl)
    | ((with_reducible apply lm_sR); exact rfl)
    | ((with_reducible apply lm_sS); exact rfl; exact rfl)
    | ((with_reducible apply lm_sL); exact rfl)
    | ((with_reducible apply lm_sP); exact rfl; exact rfl)
    | ((with_reducible apply lm_sPL); exact rfl; exact rfl)
    | ((with_reducible apply lm_sAA); exact rfl; exact rfl)
    | ((with_reducible apply lm_sA); (first | exact rfl | assumption); omega)
    | ((with_reducible apply lm_sJ); (first | exact rfl | assumption); omega)
    | ((with_reducible apply lm_sB); (first | exact rfl | assumption); omega)
    | ((with_reducible apply lm_wA); (first | exact rfl | assumption); omega)
    | ((with_reducible apply lm_wJ); (first | exact rfl | assumption); omega)
    | ((with_reducible apply lm_wB); (first | exact rfl | assumption); omega)
    | ((with_reducible apply lm_sAl); (first | exact rfl | assumption); omega)
    | ((with_reducible apply lm_iW); decide))
          refine lm_sAA rfl r7.1 ?_
          repeat (first
    | ((with_reducible apply lm_sI); exact rfl)
    | ((with_reducible apply lm_sR); exact rfl)
    | ((with_reducible apply lm_sS); exact rfl; exact rfl)
    | ((with_reducible apply lm_sL); exact rfl)
    | ((with_reducible apply lm_sP); exact rfl; exact rfl)
    | ((with_reducible apply lm_sPL); exact rfl; exact rfl)
    | ((with_reducible apply lm_sAA); exact rfl; exact rfl)
    | ((with_reducible apply lm_sA); (first | exact rfl | assumption); omega)
    | ((with_reducible apply lm_sJ); (first | exact rfl | assumption); omega)
    | ((with_reducible apply lm_sB); (first | exact rfl | assumption); omega)
    | ((with_reducible apply lm_wA); (first | exact rfl | assumption); omega)
    | ((with_reducible apply lm_wJ); (first | exact rfl | assumption); omega)
    | ((with_reducible apply lm_wB); (first | exact rfl | assumption); omega)
    | ((with_reducible apply lm_sAl); (first | exact rfl | assumption); omega)
    | ((with_reducible apply lm_iW); decide))
          rw [lm_K32, lm_om, lm_om, lm_oo, lm_oN (lm_dg1 s)]
          refine lm_cV c2 ?_
          rw [lm_K0]
          exact K
        rcases lm_lpe (sc := lm_sc xs) (d := d + 3) (b := 256) (hs := lm_m174.2.2.2.2.1) (code := lm_reg lm_m174.2.2.2.2.2) (x := x) (fr := fun c => (98, [(0, .ref 76), (1, .ref 36), (2, .int (Int32.ofNat (lm_dg1 s - lm_be s))), (3, .int (Int32.ofNat (lm_dw s))), (4, .int (Int32.ofNat t)), (5, .int (Int32.ofNat c))], [])) (I := fun c m' n' => m' = m2 ∧ n' = n1 ∧ ∀ c', c' < c → -((lm_dg1 s - lm_be s : Nat) : Int) < lm_vz (m 37) s t c' ∧ lm_vz (m 37) s t c' < (lm_dg1 s - lm_be s : Nat)) (E := fun R => R = (.ok (some (.int 0)), lm_w m2 n1 x) ∧ ¬ lm_vzo (m 37) s) (fun c hc m3 n3 ⟨em, en, g3⟩ => by
          subst em
          subst en
          have bz := lm_vz_b (Q := m 37) (t := t) (c := c) hs
          have ez := p2' c hc
          have eO : ¬ (-((lm_dg1 s - lm_be s : Nat) : Int) < lm_vz (m 37) s t c ∧ lm_vz (m 37) s t c < (lm_dg1 s - lm_be s : Nat)) → ¬ lm_vzo (m 37) s := fun q q' => q (q' t ht c hc)
          have u := lm_u253 (sc := lm_sc xs) (d := d + 2) (σ := lm_w m3 n3 x) (a := lm_vz (m 37) s t c) (by omega)
          have pre : ∀ R, lm_if .lt (Int32.ofInt (if 0 ≤ lm_vz (m 37) s t c then lm_vz (m 37) s t c else -lm_vz (m 37) s t c)) (Int32.ofInt ((lm_dg1 s - lm_be s : Nat) : Int)) (lm_rn (lm_sc xs) (d + 3) lm_m174.2.2.2.2.1 (lm_reg lm_m174.2.2.2.2.2) (98, [(0, .ref 76), (1, .ref 36), (2, .int (Int32.ofNat (lm_dg1 s - lm_be s))), (3, .int (Int32.ofNat (lm_dw s))), (4, .int (Int32.ofNat t)), (5, .int (Int32.ofNat (c + 1)))], [])) (lm_when ((Int32.ofInt 0) = 0 ∨ (Int32.ofInt 0) = 1) inferInstance (lm_ret (some (.int (Int32.ofInt 0))))) (lm_w m3 n3 x) = some R → lm_rn (lm_sc xs) (d + 3) lm_m174.2.2.2.2.1 (lm_reg lm_m174.2.2.2.2.2) (98, [(0, .ref 76), (1, .ref 36), (2, .int (Int32.ofNat (lm_dg1 s - lm_be s))), (3, .int (Int32.ofNat (lm_dw s))), (4, .int (Int32.ofNat t)), (5, .int (Int32.ofNat c))], []) (lm_w m3 n3 x) = some R := by
            intro R K
            clear g3 g2 p2'
            refine lm_e174_98 ?_
            unfold lm_q174_98
            rw [lm_K256]
            refine lm_geF (by omega) (by omega) (by omega) ?_
            repeat (first
    | ((with_reducible apply lm_sI); exact rfl)
    | ((with_reducible apply lm_sR); exact rfl)
    | ((with_reducible apply lm_sS); exact rfl; exact rfl)
    | ((with_reducible apply lm_sL); exact rfl)
    | ((with_reducible apply lm_sP); exact rfl; exact rfl)
    | ((with_reducible apply lm_sPL); exact rfl; exact rfl)
    | ((with_reducible apply lm_sAA); exact rfl; exact rfl)
    | ((with_reducible apply lm_sA); (first | exact rfl | assumption); omega)
    | ((with_reducible apply lm_sJ); (first | exact rfl | assumption); omega)
    | ((with_reducible apply lm_sB); (first | exact rfl | assumption); omega)
    | ((with_reducible apply lm_wA); (first | exact rfl | assumption); omega)
    | ((with_reducible apply lm_wJ); (first | exact rfl | assumption); omega)
    | ((with_reducible apply lm_wB); (first | exact rfl | assumption); omega)
    | ((with_reducible apply lm_sAl); (first | exact rfl | assumption); omega)
    | ((with_reducible apply lm_iW); decide))
            refine lm_sAA rfl r7.1 ?_
            repeat (first
    | ((with_reducible apply lm_sI); exact rfl)
    | ((with_reducible apply lm_sR); exact rfl)
    | ((with_reducible apply lm_sS); exact rfl; exact rfl)
    | ((with_reducible apply lm_sL); exact rfl)
    | ((with_reducible apply lm_sP); exact rfl; exact rfl)
    | ((with_reducible apply lm_sPL); exact rfl; exact rfl)
    | ((with_reducible apply lm_sAA); exact rfl; exact rfl)
    | ((with_reducible apply lm_sA); (first | exact rfl | assumption); omega)
    | ((with_reducible apply lm_sJ); (first | exact rfl | assumption); omega)
    | ((with_reducible apply lm_sB); (first | exact rfl | assumption); omega)
    | ((with_reducible apply lm_wA); (first | exact rfl | assumption); omega)
    | ((with_reducible apply lm_wJ); (first | exact rfl | assumption); omega)
    | ((with_reducible apply lm_wB); (first | exact rfl | assumption); omega)
    | ((with_reducible apply lm_sAl); (first | exact rfl | assumption); omega)
    | ((with_reducible apply lm_iW); decide))
            rw [ez]
            refine lm_cI u ?_
            rw [lm_oN (lm_dg1 s - lm_be s), lm_K1, lm_oo]
            rw [lm_oN (lm_dg1 s - lm_be s)] at K
            exact K
          by_cases cz : -((lm_dg1 s - lm_be s : Nat) : Int) < lm_vz (m 37) s t c ∧ lm_vz (m 37) s t c < (lm_dg1 s - lm_be s : Nat)
          · refine Or.inl ⟨m3, n3, ⟨rfl, rfl, fun c' hc' => ?_⟩, fun R K => pre R (lm_zltT (by split <;> omega) (by omega) (lm_abs_lt.mpr cz) K)⟩
            by_cases c0 : c' = c
            · subst c0; exact cz
            · exact g3 c' (by omega)
          · exact Or.inr ⟨_, ⟨rfl, eO cz⟩, pre _ (lm_zltF (by split <;> omega) (by omega) (fun q => cz (lm_abs_lt.mp q)) (lm_iW (by decide) rfl))⟩) 256 0 (by omega) m2 n1 ⟨rfl, rfl, fun c' hc' => absurd hc' (by omega)⟩ with ⟨m3, n3, ⟨em, en, g3⟩, k3⟩ | ⟨R, ⟨eR, q⟩, k3⟩
        · subst em
          subst en
          refine Or.inl ⟨m3, n3, ⟨rfl, fun r hr => by rw [p2.1 r (by omega), g1 r hr], fun t' ht' c hc => ?_⟩, fun R K => run R (k3 R (lm_e174_98 ?_))⟩
          · by_cases c0 : t' = t
            · subst c0; exact ⟨p2' c hc, g3 c hc⟩
            · rw [p2.1 _ (by omega)]; exact g2 t' (by omega) c hc
          · unfold lm_q174_98
            rw [lm_K256]
            refine lm_geT (by omega) (by omega) (by omega) ?_
            rw [lm_K1, lm_oo]
            exact K
        · rw [eR] at k3
          exact Or.inr ⟨_, ⟨m2, rfl, fun r hr => by rw [p2.1 r (by omega), g1 r hr], q⟩, run _ k3⟩) (lm_dl s) 0 (by omega) m n ⟨rfl, fun _ _ => rfl, fun t' ht' => absurd ht' (by omega)⟩ with ⟨m1, n1, ⟨en, g1, g2⟩, k1⟩ | ⟨R, ⟨m1, eR, g1, q⟩, k1⟩
      · subst en
        refine Or.inl ⟨m1, head _ (k1 _ (lm_e174_46 ?_)), ⟨cs, ho, fun t ht c hc => (g2 t ht c hc).2⟩, g1, fun t ht c hc => (g2 t ht c hc).1⟩
        clear g2
        unfold lm_q174_46
        repeat (first
    | ((with_reducible apply lm_sI); exact rfl)
    | ((with_reducible apply lm_sR); exact rfl)
    | ((with_reducible apply lm_sS); exact rfl; exact rfl)
    | ((with_reducible apply lm_sL); exact rfl)
    | ((with_reducible apply lm_sP); exact rfl; exact rfl)
    | ((with_reducible apply lm_sPL); exact rfl; exact rfl)
    | ((with_reducible apply lm_sAA); exact rfl; exact rfl)
    | ((with_reducible apply lm_sA); (first | exact rfl | assumption); omega)
    | ((with_reducible apply lm_sJ); (first | exact rfl | assumption); omega)
    | ((with_reducible apply lm_sB); (first | exact rfl | assumption); omega)
    | ((with_reducible apply lm_wA); (first | exact rfl | assumption); omega)
    | ((with_reducible apply lm_wJ); (first | exact rfl | assumption); omega)
    | ((with_reducible apply lm_wB); (first | exact rfl | assumption); omega)
    | ((with_reducible apply lm_sAl); (first | exact rfl | assumption); omega)
    | ((with_reducible apply lm_iW); decide))
        simp only [Nat.reduceDiv, Nat.reduceMod]
        rw [g1 76 (by omega), h.2.2]
        exact lm_geT (by omega) (by omega) (by omega) (lm_iW (by decide) rfl)
      · rw [eR] at k1
        exact Or.inr ⟨m1, head _ k1, fun q' => q q'.2.2, g1⟩
    · refine Or.inr ⟨m, ?_, fun q' => ho q'.2.1, fun _ _ => rfl⟩
      refine lm_cal_of (Y := lm_m174) rfl rfl (lm_e174_0 ?_)
      unfold lm_q174_0
      repeat (first
    | ((with_reducible apply lm_sI); exact rfl)
    | ((with_reducible apply lm_sR); exact rfl)
    | ((with_reducible apply lm_sS); exact rfl; exact rfl)
    | ((with_reducible apply lm_sL); exact rfl)
    | ((with_reducible apply lm_sP); exact rfl; exact rfl)
    | ((with_reducible apply lm_sPL); exact rfl; exact rfl)
    | ((with_reducible apply lm_sAA); exact rfl; exact rfl)
    | ((with_reducible apply lm_sA); (first | exact rfl | assumption); omega)
    | ((with_reducible apply lm_sJ); (first | exact rfl | assumption); omega)
    | ((with_reducible apply lm_sB); (first | exact rfl | assumption); omega)
    | ((with_reducible apply lm_wA); (first | exact rfl | assumption); omega)
    | ((with_reducible apply lm_wJ); (first | exact rfl | assumption); omega)
    | ((with_reducible apply lm_wB); (first | exact rfl | assumption); omega)
    | ((with_reducible apply lm_sAl); (first | exact rfl | assumption); omega)
    | ((with_reducible apply lm_iW); decide))
      refine lm_cI u248 ?_
      simp only [Nat.reduceDiv, Nat.reduceMod]
      rw [h1]
      refine lm_neF (by omega) (by omega) (fun g => g cs) ?_
      repeat (first
    | ((with_reducible apply lm_sI); exact rfl)
    | ((with_reducible apply lm_sR); exact rfl)
    | ((with_reducible apply lm_sS); exact rfl; exact rfl)
    | ((with_reducible apply lm_sL); exact rfl)
    | ((with_reducible apply lm_sP); exact rfl; exact rfl)
    | ((with_reducible apply lm_sPL); exact rfl; exact rfl)
    | ((with_reducible apply lm_sAA); exact rfl; exact rfl)
    | ((with_reducible apply lm_sA); (first | exact rfl | assumption); omega)
    | ((with_reducible apply lm_sJ); (first | exact rfl | assumption); omega)
    | ((with_reducible apply lm_sB); (first | exact rfl | assumption); omega)
    | ((with_reducible apply lm_wA); (first | exact rfl | assumption); omega)
    | ((with_reducible apply lm_wJ); (first | exact rfl | assumption); omega)
    | ((with_reducible apply lm_wB); (first | exact rfl | assumption); omega)
    | ((with_reducible apply lm_sAl); (first | exact rfl | assumption); omega)
    | ((with_reducible apply lm_iW); decide))
      refine lm_cI u249 ?_
      refine lm_iF (show ¬ ¬ (0 : Int32) = 0 by decide) ?_
      exact lm_iW (by decide) rfl
  · refine Or.inr ⟨m, ?_, fun q' => cs q'.1, fun _ _ => rfl⟩
    refine lm_cal_of (Y := lm_m174) rfl rfl (lm_e174_0 ?_)
    unfold lm_q174_0
    repeat (first
    | ((with_reducible apply lm_sI); exact rfl)
    | ((with_reducible apply lm_sR); exact rfl)
    | ((with_reducible apply lm_sS); exact rfl; exact rfl)
    | ((with_reducible apply lm_sL); exact rfl)
    | ((with_reducible apply lm_sP); exact rfl; exact rfl)
    | ((with_reducible apply lm_sPL); exact rfl; exact rfl)
    | ((with_reducible apply lm_sAA); exact rfl; exact rfl)
    | ((with_reducible apply lm_sA); (first | exact rfl | assumption); omega)
    | ((with_reducible apply lm_sJ); (first | exact rfl | assumption); omega)
    | ((with_reducible apply lm_sB); (first | exact rfl | assumption); omega)
    | ((with_reducible apply lm_wA); (first | exact rfl | assumption); omega)
    | ((with_reducible apply lm_wJ); (first | exact rfl | assumption); omega)
    | ((with_reducible apply lm_wB); (first | exact rfl | assumption); omega)
    | ((with_reducible apply lm_sAl); (first | exact rfl | assumption); omega)
    | ((with_reducible apply lm_iW); decide))
    refine lm_cI u248 ?_
    simp only [Nat.reduceDiv, Nat.reduceMod]
    rw [h1]
    refine lm_neT (by omega) (by omega) cs ?_
    exact lm_iW (by decide) rfl
end LMVB
