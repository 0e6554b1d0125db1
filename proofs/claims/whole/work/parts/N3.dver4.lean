/-! ===== dsaVerify of the class: applyHints ===== -/
def lm_mq (s : Nat) : Nat := [44, 16, 16].getD s 0
def lm_uh (g : Int) (mq : Nat) (r : Int) (b : Bool) : Int := if b then (if ln_lo g r ≤ 0 then (lm_hi g r - 1) % mq else (lm_hi g r + 1) % mq) else lm_hi g r
theorem lm_mq_b {s : Nat} (hs : s ≤ 2) : lm_mq s ≤ 2 ^ lm_hb s ∧ 16 ≤ lm_mq s ∧ lm_mq s ≤ 44 := by
  match s, hs with
  | 0, _ => decide
  | 1, _ => decide
  | 2, _ => decide
theorem lm_hi_mq {s : Nat} {r : Int} (hs : s ≤ 2) (hr : 0 ≤ r ∧ r < 8380417) : 0 ≤ lm_hi (lm_dg2 s) r ∧ lm_hi (lm_dg2 s) r < lm_mq s := by
  match s, hs with
  | 0, _ => have := lm_hi_b (g := 95232) (Or.inl rfl) hr; exact ⟨this.1, by show lm_hi 95232 r < 44; omega⟩
  | 1, _ => have := lm_hi_b (g := 261888) (Or.inr rfl) hr; exact ⟨this.1, by show lm_hi 261888 r < 16; omega⟩
  | 2, _ => have := lm_hi_b (g := 261888) (Or.inr rfl) hr; exact ⟨this.1, by show lm_hi 261888 r < 16; omega⟩
theorem lm_uh_b {s : Nat} {r : Int} {b : Bool} (hs : s ≤ 2) (hr : 0 ≤ r ∧ r < 8380417) : 0 ≤ lm_uh (lm_dg2 s) (lm_mq s) r b ∧ lm_uh (lm_dg2 s) (lm_mq s) r b < ((2 ^ lm_hb s : Nat) : Int) := by
  have h1 := lm_mq_b hs
  have h2 := lm_hi_mq hs hr
  have h3 : ((lm_mq s : Nat) : Int) ≤ ((2 ^ lm_hb s : Nat) : Int) := by omega
  have e : ∀ a : Int, 0 ≤ a % (lm_mq s : Int) ∧ a % (lm_mq s : Int) < lm_mq s := fun a => ⟨Int.emod_nonneg _ (by omega), Int.emod_lt_of_pos _ (by omega)⟩
  have a1 := e (lm_hi (lm_dg2 s) r - 1)
  have a2 := e (lm_hi (lm_dg2 s) r + 1)
  unfold lm_uh
  split
  · split
    · omega
    · omega
  · omega
section LMVD
variable {xs : List Int32} {sc : lm_H} {C : lm_CX} {d s : Nat} {m : lm_MI} {n : lm_ML} {x : lm_H × Nat × Nat}
theorem lm_u256 {W : Nat → Nat → Int} (hs : s ≤ 2) (h : lm_DC m s) (ho : ∀ i, i < lm_dk s → lm_hr (lm_vh (m 37) s) (lm_vc (m 37) s) (lm_do s) i) (hW : ∀ i, i < lm_dk s → ∀ c, c < 256 → m (177 + i) c = Int32.ofInt (W i c) ∧ 0 ≤ W i c ∧ W i c < 8380417) : ∃ m', lm_cal (lm_sc xs) (d + 3) 256 [.ref 76, .ref 37] (lm_w m n x) = some (.ok none, lm_w m' n x) ∧ (∀ r, (r < 177 ∨ 184 < r) → m' r = m r) ∧ ∀ i, i < lm_dk s → ∀ c, c < 256 → m' (177 + i) c = Int32.ofInt (lm_uh (lm_dg2 s) (lm_mq s) (W i c) (ln_fl (lm_vh (m 37) s) (lm_pv (lm_vc (m 37) s) i) (lm_vc (m 37) s i - lm_pv (lm_vc (m 37) s) i) c)) := by
  have hkl := lm_dkl hs
  have hpar := lm_dpar s hs
  have hP := lm_vPb hs
  have hps := lm_dps_e s
  have hmq := lm_mq_b hs
  have hg := lm_g2_2 hs
  have eH : ∀ j, lm_b8 (m 37 (lm_dsz s + 32 * lm_dw s * lm_dl s + j)) &&& Int32.ofInt 255 = Int32.ofNat (lm_vh (m 37) s j) := fun j => lm_b8u _
  have eC : ∀ i, lm_b8 (m 37 (lm_dsz s + 32 * lm_dw s * lm_dl s + lm_do s + i)) &&& Int32.ofInt 255 = Int32.ofNat (lm_vc (m 37) s i) := fun i => lm_b8u _
  have bH : ∀ j, lm_vh (m 37) s j < 256 := fun j => lm_yb_lt _
  generalize lm_vh (m 37) s = hb at *
  generalize lm_vc (m 37) s = cn at *
  generalize eP : lm_dsz s + 32 * lm_dw s * lm_dl s = P at *
  obtain ⟨m1, n1, ⟨en, g1, g2⟩, k1⟩ := lm_lp (sc := lm_sc xs) (d := d + 2) (b := lm_dk s) (hs := lm_m256.2.2.2.2.1) (code := lm_reg lm_m256.2.2.2.2.2) (x := x) (fr := fun i => (41, [(0, .ref 76), (1, .ref 37), (2, .int (Int32.ofNat (lm_do s))), (3, .int (Int32.ofNat P)), (4, .int (Int32.ofNat (lm_mq s))), (5, .int (Int32.ofNat (lm_pv cn i))), (6, .int (Int32.ofNat i))], [])) (I := fun i m' n' => n' = n ∧ (∀ r, (r < 177 ∨ 177 + i ≤ r) → m' r = m r) ∧ ∀ i', i' < i → ∀ c, c < 256 → m' (177 + i') c = Int32.ofInt (lm_uh (lm_dg2 s) (lm_mq s) (W i' c) (ln_fl hb (lm_pv cn i') (cn i' - lm_pv cn i') c))) (fun i hi m1 n1 ⟨en, g1, g2⟩ => by
    subst en
    have hr := ho i hi
    have inc : ∀ j, lm_pv cn i < j → j < lm_pv cn i + (cn i - lm_pv cn i) → hb (j - 1) < hb j := fun j a b => hr.2.2 j a (by have := hr.1; omega)
    have hcn : lm_pv cn i + (cn i - lm_pv cn i) = cn i := by have := hr.1; omega
    have hcw := hr.2.1
    have aW := lm_arW8 i (by omega)
    have e76 : m1 76 = m 76 := g1 76 (by omega)
    have e37 : m1 37 = m 37 := g1 37 (by omega)
    obtain ⟨m2, n2, ⟨en, a1, a2, a3⟩, k2⟩ := lm_lp (sc := lm_sc xs) (d := d + 2) (b := 256) (hs := lm_m256.2.2.2.2.1) (code := lm_reg lm_m256.2.2.2.2.2) (x := x) (fr := fun c => (67, [(0, .ref 76), (1, .ref 37), (2, .int (Int32.ofNat (lm_do s))), (3, .int (Int32.ofNat P)), (4, .int (Int32.ofNat (lm_mq s))), (5, .int (Int32.ofNat (lm_pp hb (lm_pv cn i) (cn i - lm_pv cn i) c))), (6, .int (Int32.ofNat i)), (7, .int (Int32.ofNat (cn i))), (8, .int (Int32.ofNat c))], [])) (I := fun c m' n' => n' = n1 ∧ (∀ r, r ≠ 177 + i → m' r = m1 r) ∧ (∀ c', c' < c → m' (177 + i) c' = Int32.ofInt (lm_uh (lm_dg2 s) (lm_mq s) (W i c') (ln_fl hb (lm_pv cn i) (cn i - lm_pv cn i) c'))) ∧ ∀ c', c ≤ c' → m' (177 + i) c' = m1 (177 + i) c') (fun c hc m2 n2 ⟨en, a1, a2, a3⟩ => by
      obtain ⟨i1, i2, i3, i4⟩ := lm_pp_i inc c
      have hw := hW i hi c hc
      have eW : m2 (177 + i) c = Int32.ofInt (W i c) := by rw [a3 c (by omega), g1 _ (by omega)]; exact hw.1
      have h17 : m2 76 17 = Int32.ofNat s := by rw [a1 76 (by omega), e76]; exact h.1
      have uh1 := lm_u301 (xs := xs) (d := d) (m := m2) (n := n2) (x := x) (r := W i c) hs h17 hw.2
      generalize eM : lm_u m2 (177 + i) c (Int32.ofInt (lm_hi (lm_dg2 s) (W i c))) = M
      have rM : ∀ r, r ≠ 177 + i → M r = m2 r := fun r hr => by rw [← eM, lm_u_row hr]
      have h17' : M 76 17 = Int32.ofNat s := by rw [rM 76 (by omega)]; exact h17
      have e37' : M 37 = m 37 := by rw [rM 37 (by omega), a1 37 (by omega), e37]
      have e164 : ∀ m3 w3 R, lm_rn (lm_sc xs) (d + 2) lm_m256.2.2.2.2.1 (lm_reg lm_m256.2.2.2.2.2) (67, [(0, .ref 76), (1, .ref 37), (2, .int (Int32.ofNat (lm_do s))), (3, .int (Int32.ofNat P)), (4, .int (Int32.ofNat (lm_mq s))), (5, .int w3), (6, .int (Int32.ofNat i)), (7, .int (Int32.ofNat (cn i))), (8, .int (Int32.ofNat (c + 1)))], []) (lm_w m3 n2 x) = some R → lm_rn (lm_sc xs) (d + 2) lm_m256.2.2.2.2.1 (lm_reg lm_m256.2.2.2.2.2) (164, [(0, .ref 76), (1, .ref 37), (2, .int (Int32.ofNat (lm_do s))), (3, .int (Int32.ofNat P)), (4, .int (Int32.ofNat (lm_mq s))), (5, .int w3), (6, .int (Int32.ofNat i)), (7, .int (Int32.ofNat (cn i))), (8, .int (Int32.ofNat c))], []) (lm_w m3 n2 x) = some R := by
        intro m3 w3 R K
        refine lm_e256_164 ?_
        unfold lm_q256_164
        rw [lm_K1, lm_oo]
        exact K
      have efl := lm_pp_f (c := c) inc
      have esp : lm_pp hb (lm_pv cn i) (cn i - lm_pv cn i) (c + 1) = if lm_pp hb (lm_pv cn i) (cn i - lm_pv cn i) c < lm_pv cn i + (cn i - lm_pv cn i) ∧ hb (lm_pp hb (lm_pv cn i) (cn i - lm_pv cn i) c) = c then lm_pp hb (lm_pv cn i) (cn i - lm_pv cn i) c + 1 else lm_pp hb (lm_pv cn i) (cn i - lm_pv cn i) c := by rw [lm_pp]
      have bh := bH (lm_pp hb (lm_pv cn i) (cn i - lm_pv cn i) c)
      by_cases cf : lm_pp hb (lm_pv cn i) (cn i - lm_pv cn i) c < lm_pv cn i + (cn i - lm_pv cn i) ∧ hb (lm_pp hb (lm_pv cn i) (cn i - lm_pv cn i) c) = c
      · rw [if_pos cf] at esp
        have ef := efl.mp cf
        generalize lm_pp hb (lm_pv cn i) (cn i - lm_pv cn i) c = pp at *
        have uh2 := lm_u301 (xs := xs) (d := d) (m := M) (n := n2) (x := x) (r := W i c) hs h17' hw.2
        have ul := lm_u302 (xs := xs) (d := d + 1) (m := M) (n := n2) (x := x) (r := W i c) hs h17' hw.2
        have bhi := lm_hi_mq hs hw.2
        have blo := lm_lo_b hg hw.2
        generalize ed : (if ln_lo (lm_dg2 s) (W i c) ≤ 0 then (-1 : Int) else 1) = dd
        have u286 := lm_u286 (sc := lm_sc xs) (d := d + 1) (σ := lm_w M n2 x) (a := lm_hi (lm_dg2 s) (W i c) + dd) (q := (lm_mq s : Int)) (by rw [← ed]; split <;> omega) (by rw [← ed]; split <;> omega) (by omega) (by omega)
        have eU : (lm_hi (lm_dg2 s) (W i c) + dd) % (lm_mq s : Int) = lm_uh (lm_dg2 s) (lm_mq s) (W i c) true := by
          unfold lm_uh
          rw [if_pos rfl, ← ed]
          by_cases cl : ln_lo (lm_dg2 s) (W i c) ≤ 0
          · rw [if_pos cl, if_pos cl]
            rfl
          · rw [if_neg cl, if_neg cl]
        rw [eU] at u286
        refine ⟨lm_u M (177 + i) c (Int32.ofInt (lm_uh (lm_dg2 s) (lm_mq s) (W i c) true)), n2, ⟨en, fun r hr => by rw [lm_u_row hr, rM r hr, a1 r hr], fun c' hc' => ?_, fun c' hc' => ?_⟩, fun R K => lm_e256_67 ?_⟩
        · by_cases c0 : c' = c
          · subst c0; rw [lm_u_eq, ef]
          · rw [lm_u_ne (fun q => c0 q.2), ← eM, lm_u_ne (fun q => c0 q.2)]; exact a2 c' (by omega)
        · rw [lm_u_ne (by omega), ← eM, lm_u_ne (by omega)]; exact a3 c' (by omega)
        · rw [esp] at K
          clear a2 a3 g2 hW
          have e154 : ∀ w, w = Int32.ofInt dd → lm_rn (lm_sc xs) (d + 2) lm_m256.2.2.2.2.1 (lm_reg lm_m256.2.2.2.2.2) (154, [(0, .ref 76), (1, .ref 37), (2, .int (Int32.ofNat (lm_do s))), (3, .int (Int32.ofNat P)), (4, .int (Int32.ofNat (lm_mq s))), (5, .int (Int32.ofNat pp)), (6, .int (Int32.ofNat i)), (7, .int (Int32.ofNat (cn i))), (8, .int (Int32.ofNat c))], [.int w, .int (Int32.ofInt (lm_hi (lm_dg2 s) (W i c))), .int (Int32.ofNat c), .ref (177 + i)]) (lm_w M n2 x) = some R := by
            intro w hw'
            subst hw'
            refine lm_e256_154 ?_
            unfold lm_q256_154
            rw [lm_iA, lm_oN (lm_mq s)]
            refine lm_cI u286 ?_
            repeat (first
    | ((with_reducible apply lm_sI); exact rfl)
    | ((with_reducible apply lm_sR); exact rfl)
    | ((with_reducible apply lm_sS); exact rfl; exact rfl)
    | ((with_reducible apply lm_sL); exact rfl)
    | ((with_reducible apply lm_sP); exact rfl; exact rfl)
    | ((with_reducible apply lm_sPL); exact rfl; exact rfl)
    | ((with_reducible apply lm_sAA); exact rfl; exact rfl)
    | ((with_reducible apply lm_sA); (first | exact rfl | assumption); omega)
    | ((with_reducible apply lm_sJ); (first | exact rfl | assumption); omega)
    | ((with_reducible apply lm_sB); (first | exact rfl | assumption); omega)
    | ((with_reducible apply lm_wA); (first | exact rfl | assumption); omega)
    | ((with_reducible apply lm_wJ); (first | exact rfl | assumption); omega)
    | ((with_reducible apply lm_wB); (first | exact rfl | assumption); omega)
    | ((with_reducible apply lm_sAl); (first | exact rfl | assumption); omega)
    | ((with_reducible apply lm_iW); decide))
            rw [lm_K1, lm_oo, ← lm_oN (lm_mq s)]
            exact e164 _ _ R K
          unfold lm_q256_67
          rw [lm_K256]
          refine lm_geF (by omega) (by omega) (by omega) ?_
          repeat (first
    | ((with_reducible apply lm_sI); exact rfl)
    | ((with_reducible apply lm_sR); exact rfl)
    | ((with_reducible apply lm_sS); exact rfl; exact rfl)
    | ((with_reducible apply lm_sL); exact rfl)
    | ((with_reducible apply lm_sP); exact rfl; exact rfl)
    | ((with_reducible apply lm_sPL); exact rfl; exact rfl)
    | ((with_reducible apply lm_sAA); exact rfl; exact rfl)
    | ((with_reducible apply lm_sA); (first | exact rfl | assumption); omega)
    | ((with_reducible apply lm_sJ); (first | exact rfl | assumption); omega)
    | ((with_reducible apply lm_sB); (first | exact rfl | assumption); omega)
    | ((with_reducible apply lm_wA); (first | exact rfl | assumption); omega)
    | ((with_reducible apply lm_wJ); (first | exact rfl | assumption); omega)
    | ((with_reducible apply lm_wB); (first | exact rfl | assumption); omega)
    | ((with_reducible apply lm_sAl); (first | exact rfl | assumption); omega)
    | ((with_reducible apply lm_iW); decide))
          refine lm_sAA rfl (lm_roW8 i (by omega)) ?_
          repeat (first
    | ((with_reducible apply lm_sI); exact rfl)
    | ((with_reducible apply lm_sR); exact rfl)
    | ((with_reducible apply lm_sS); exact rfl; exact rfl)
    | ((with_reducible apply lm_sL); exact rfl)
    | ((with_reducible apply lm_sP); exact rfl; exact rfl)
    | ((with_reducible apply lm_sPL); exact rfl; exact rfl)
    | ((with_reducible apply lm_sAA); exact rfl; exact rfl)
    | ((with_reducible apply lm_sA); (first | exact rfl | assumption); omega)
    | ((with_reducible apply lm_sJ); (first | exact rfl | assumption); omega)
    | ((with_reducible apply lm_sB); (first | exact rfl | assumption); omega)
    | ((with_reducible apply lm_wA); (first | exact rfl | assumption); omega)
    | ((with_reducible apply lm_wJ); (first | exact rfl | assumption); omega)
    | ((with_reducible apply lm_wB); (first | exact rfl | assumption); omega)
    | ((with_reducible apply lm_sAl); (first | exact rfl | assumption); omega)
    | ((with_reducible apply lm_iW); decide))
          refine lm_sAA rfl (lm_roW8 i (by omega)) ?_
          repeat (first
    | ((with_reducible apply lm_sI); exact rfl)
    | ((with_reducible apply lm_sR); exact rfl)
    | ((with_reducible apply lm_sS); exact rfl; exact rfl)
    | ((with_reducible apply lm_sL); exact rfl)
    | ((with_reducible apply lm_sP); exact rfl; exact rfl)
    | ((with_reducible apply lm_sPL); exact rfl; exact rfl)
    | ((with_reducible apply lm_sAA); exact rfl; exact rfl)
    | ((with_reducible apply lm_sA); (first | exact rfl | assumption); omega)
    | ((with_reducible apply lm_sJ); (first | exact rfl | assumption); omega)
    | ((with_reducible apply lm_sB); (first | exact rfl | assumption); omega)
    | ((with_reducible apply lm_wA); (first | exact rfl | assumption); omega)
    | ((with_reducible apply lm_wJ); (first | exact rfl | assumption); omega)
    | ((with_reducible apply lm_wB); (first | exact rfl | assumption); omega)
    | ((with_reducible apply lm_sAl); (first | exact rfl | assumption); omega)
    | ((with_reducible apply lm_iW); decide))
          rw [eW]
          refine lm_cI uh1 ?_
          repeat (first
    | ((with_reducible apply lm_sI); exact rfl)
    | ((with_reducible apply lm_sR); exact rfl)
    | ((with_reducible apply lm_sS); exact rfl; exact rfl)
    | ((with_reducible apply lm_sL); exact rfl)
    | ((with_reducible apply lm_sP); exact rfl; exact rfl)
    | ((with_reducible apply lm_sPL); exact rfl; exact rfl)
    | ((with_reducible apply lm_sAA); exact rfl; exact rfl)
    | ((with_reducible apply lm_sA); (first | exact rfl | assumption); omega)
    | ((with_reducible apply lm_sJ); (first | exact rfl | assumption); omega)
    | ((with_reducible apply lm_sB); (first | exact rfl | assumption); omega)
    | ((with_reducible apply lm_wA); (first | exact rfl | assumption); omega)
    | ((with_reducible apply lm_wJ); (first | exact rfl | assumption); omega)
    | ((with_reducible apply lm_wB); (first | exact rfl | assumption); omega)
    | ((with_reducible apply lm_sAl); (first | exact rfl | assumption); omega)
    | ((with_reducible apply lm_iW); decide))
          rw [eM]
          refine lm_geF (by omega) (by omega) (by omega) ?_
          rw [lm_oo]
          repeat (first
    | ((with_reducible apply lm_sI); exact rfl)
    | ((with_reducible apply lm_sR); exact rfl)
    | ((with_reducible apply lm_sS); exact rfl; exact rfl)
    | ((with_reducible apply lm_sL); exact rfl)
    | ((with_reducible apply lm_sP); exact rfl; exact rfl)
    | ((with_reducible apply lm_sPL); exact rfl; exact rfl)
    | ((with_reducible apply lm_sAA); exact rfl; exact rfl)
    | ((with_reducible apply lm_sA); (first | exact rfl | assumption); omega)
    | ((with_reducible apply lm_sJ); (first | exact rfl | assumption); omega)
    | ((with_reducible apply lm_sB); (first | exact rfl | assumption); omega)
    | ((with_reducible apply lm_wA); (first | exact rfl | assumption); omega)
    | ((with_reducible apply lm_wJ); (first | exact rfl | assumption); omega)
    | ((with_reducible apply lm_wB); (first | exact rfl | assumption); omega)
    | ((with_reducible apply lm_sAl); (first | exact rfl | assumption); omega)
    | ((with_reducible apply lm_iW); decide))
          rw [e37', eH]
          refine lm_neF (by omega) (by omega) (fun q => q cf.2) ?_
          repeat (first
    | ((with_reducible apply lm_sI); exact rfl)
    | ((with_reducible apply lm_sR); exact rfl)
    | ((with_reducible apply lm_sS); exact rfl; exact rfl)
    | ((with_reducible apply lm_sL); exact rfl)
    | ((with_reducible apply lm_sP); exact rfl; exact rfl)
    | ((with_reducible apply lm_sPL); exact rfl; exact rfl)
    | ((with_reducible apply lm_sAA); exact rfl; exact rfl)
    | ((with_reducible apply lm_sA); (first | exact rfl | assumption); omega)
    | ((with_reducible apply lm_sJ); (first | exact rfl | assumption); omega)
    | ((with_reducible apply lm_sB); (first | exact rfl | assumption); omega)
    | ((with_reducible apply lm_wA); (first | exact rfl | assumption); omega)
    | ((with_reducible apply lm_wJ); (first | exact rfl | assumption); omega)
    | ((with_reducible apply lm_wB); (first | exact rfl | assumption); omega)
    | ((with_reducible apply lm_sAl); (first | exact rfl | assumption); omega)
    | ((with_reducible apply lm_iW); decide))
          refine lm_sAA rfl (lm_roW8 i (by omega)) ?_
          repeat (first
    | ((with_reducible apply lm_sI); exact rfl)
    | ((with_reducible apply lm_sR); exact rfl)
    | ((with_reducible apply lm_sS); exact rfl; exact rfl)
    | ((with_reducible apply lm_sL); exact rfl)
    | ((with_reducible apply lm_sP); exact rfl; exact rfl)
    | ((with_reducible apply lm_sPL); exact rfl; exact rfl)
    | ((with_reducible apply lm_sAA); exact rfl; exact rfl)
    | ((with_reducible apply lm_sA); (first | exact rfl | assumption); omega)
    | ((with_reducible apply lm_sJ); (first | exact rfl | assumption); omega)
    | ((with_reducible apply lm_sB); (first | exact rfl | assumption); omega)
    | ((with_reducible apply lm_wA); (first | exact rfl | assumption); omega)
    | ((with_reducible apply lm_wJ); (first | exact rfl | assumption); omega)
    | ((with_reducible apply lm_wB); (first | exact rfl | assumption); omega)
    | ((with_reducible apply lm_sAl); (first | exact rfl | assumption); omega)
    | ((with_reducible apply lm_iW); decide))
          refine lm_cI uh2 ?_
          repeat (first
    | ((with_reducible apply lm_sI); exact rfl)
    | ((with_reducible apply lm_sR); exact rfl)
    | ((with_reducible apply lm_sS); exact rfl; exact rfl)
    | ((with_reducible apply lm_sL); exact rfl)
    | ((with_reducible apply lm_sP); exact rfl; exact rfl)
    | ((with_reducible apply lm_sPL); exact rfl; exact rfl)
    | ((with_reducible apply lm_sAA); exact rfl; exact rfl)
    | ((with_reducible apply lm_sA); (first | exact rfl | assumption); omega)
    | ((with_reducible apply lm_sJ); (first | exact rfl | assumption); omega)
    | ((with_reducible apply lm_sB); (first | exact rfl | assumption); omega)
    | ((with_reducible apply lm_wA); (first | exact rfl | assumption); omega)
    | ((with_reducible apply lm_wJ); (first | exact rfl | assumption); omega)
    | ((with_reducible apply lm_wB); (first | exact rfl | assumption); omega)
    | ((with_reducible apply lm_sAl); (first | exact rfl | assumption); omega)
    | ((with_reducible apply lm_iW); decide))
          refine lm_cI ul ?_
          by_cases cl : ln_lo (lm_dg2 s) (W i c) ≤ 0
          · refine lm_zleT (b := 0) (by omega) (by omega) cl ?_
            exact e154 _ (by rw [← ed, if_pos cl])
          · refine lm_zleF (b := 0) (by omega) (by omega) cl ?_
            exact e154 _ (by rw [← ed, if_neg cl])
      · rw [if_neg cf] at esp
        have ef : ln_fl hb (lm_pv cn i) (cn i - lm_pv cn i) c = false := by
          cases e : ln_fl hb (lm_pv cn i) (cn i - lm_pv cn i) c with
          | true => exact absurd (efl.mpr e) cf
          | false => rfl
        generalize lm_pp hb (lm_pv cn i) (cn i - lm_pv cn i) c = pp at *
        refine ⟨M, n2, ⟨en, fun r hr => by rw [rM r hr, a1 r hr], fun c' hc' => ?_, fun c' hc' => ?_⟩, fun R K => lm_e256_67 ?_⟩
        · by_cases c0 : c' = c
          · subst c0
            rw [← eM, lm_u_eq, ef]
            rfl
          · rw [← eM, lm_u_ne (fun q => c0 q.2)]; exact a2 c' (by omega)
        · rw [← eM, lm_u_ne (by omega)]; exact a3 c' (by omega)
        · rw [esp] at K
          clear a2 a3 g2 hW
          unfold lm_q256_67
          rw [lm_K256]
          refine lm_geF (by omega) (by omega) (by omega) ?_
          repeat (first
    | ((with_reducible apply lm_sI); exact rfl)
    | ((with_reducible apply lm_sR); exact rfl)
    | ((with_reducible apply lm_sS); exact rfl; exact rfl)
    | ((with_reducible apply lm_sL); exact rfl)
    | ((with_reducible apply lm_sP); exact rfl; exact rfl)
    | ((with_reducible apply lm_sPL); exact rfl; exact rfl)
    | ((with_reducible apply lm_sAA); exact rfl; exact rfl)
    | ((with_reducible apply lm_sA); (first | exact rfl | assumption); omega)
    | ((with_reducible apply lm_sJ); (first | exact rfl | assumption); omega)
    | ((with_reducible apply lm_sB); (first | exact rfl | assumption); omega)
    | ((with_reducible apply lm_wA); (first | exact rfl | assumption); omega)
    | ((with_reducible apply lm_wJ); (first | exact rfl | assumption); omega)
    | ((with_reducible apply lm_wB); (first | exact rfl | assumption); omega)
    | ((with_reducible apply lm_sAl); (first | exact rfl | assumption); omega)
    | ((with_reducible apply lm_iW); decide))
          refine lm_sAA rfl (lm_roW8 i (by omega)) ?_
          repeat (first
    | ((with_reducible apply lm_sI); exact rfl)
    | ((with_reducible apply lm_sR); exact rfl)
    | ((with_reducible apply lm_sS); exact rfl; exact rfl)
    | ((with_reducible apply lm_sL); exact rfl)
    | ((with_reducible apply lm_sP); exact rfl; exact rfl)
    | ((with_reducible apply lm_sPL); exact rfl; exact rfl)
    | ((with_reducible apply lm_sAA); exact rfl; exact rfl)
    | ((with_reducible apply lm_sA); (first | exact rfl | assumption); omega)
    | ((with_reducible apply lm_sJ); (first | exact rfl | assumption); omega)
    | ((with_reducible apply lm_sB); (first | exact rfl | assumption); omega)
    | ((with_reducible apply lm_wA); (first | exact rfl | assumption); omega)
    | ((with_reducible apply lm_wJ); (first | exact rfl | assumption); omega)
    | ((with_reducible apply lm_wB); (first | exact rfl | assumption); omega)
    | ((with_reducible apply lm_sAl); (first | exact rfl | assumption); omega)
    | ((with_reducible apply lm_iW); decide))
          refine lm_sAA rfl (lm_roW8 i (by omega)) ?_
          repeat (first
    | ((with_reducible apply lm_sI); exact rfl)
    | ((with_reducible apply lm_sR); exact rfl)
    | ((with_reducible apply lm_sS); exact rfl; exact rfl)
    | ((with_reducible apply lm_sL); exact rfl)
    | ((with_reducible apply lm_sP); exact rfl; exact rfl)
    | ((with_reducible apply lm_sPL); exact rfl; exact rfl)
    | ((with_reducible apply lm_sAA); exact rfl; exact rfl)
    | ((with_reducible apply lm_sA); (first | exact rfl | assumption); omega)
    | ((with_reducible apply lm_sJ); (first | exact rfl | assumption); omega)
    | ((with_reducible apply lm_sB); (first | exact rfl | assumption); omega)
    | ((with_reducible apply lm_wA); (first | exact rfl | assumption); omega)
    | ((with_reducible apply lm_wJ); (first | exact rfl | assumption); omega)
    | ((with_reducible apply lm_wB); (first | exact rfl | assumption); omega)
    | ((with_reducible apply lm_sAl); (first | exact rfl | assumption); omega)
    | ((with_reducible apply lm_iW); decide))
          rw [eW]
          refine lm_cI uh1 ?_
          repeat (first
    | ((with_reducible apply lm_sI); exact rfl)
    | ((with_reducible apply lm_sR); exact rfl)
    | ((with_reducible apply lm_sS); exact rfl; exact rfl)
    | ((with_reducible apply lm_sL); exact rfl)
    | ((with_reducible apply lm_sP); exact rfl; exact rfl)
    | ((with_reducible apply lm_sPL); exact rfl; exact rfl)
    | ((with_reducible apply lm_sAA); exact rfl; exact rfl)
    | ((with_reducible apply lm_sA); (first | exact rfl | assumption); omega)
    | ((with_reducible apply lm_sJ); (first | exact rfl | assumption); omega)
    | ((with_reducible apply lm_sB); (first | exact rfl | assumption); omega)
    | ((with_reducible apply lm_wA); (first | exact rfl | assumption); omega)
    | ((with_reducible apply lm_wJ); (first | exact rfl | assumption); omega)
    | ((with_reducible apply lm_wB); (first | exact rfl | assumption); omega)
    | ((with_reducible apply lm_sAl); (first | exact rfl | assumption); omega)
    | ((with_reducible apply lm_iW); decide))
          rw [eM]
          by_cases cg : cn i ≤ pp
          · refine lm_geT (by omega) (by omega) cg ?_
            exact e164 _ _ R K
          · refine lm_geF (by omega) (by omega) cg ?_
            rw [lm_oo]
            repeat (first
    | ((with_reducible apply lm_sI); exact rfl)
    | ((with_reducible apply lm_sR); exact rfl)
    | ((with_reducible apply lm_sS); exact rfl; exact rfl)
    | ((with_reducible apply lm_sL); exact rfl)
    | ((with_reducible apply lm_sP); exact rfl; exact rfl)
    | ((with_reducible apply lm_sPL); exact rfl; exact rfl)
    | ((with_reducible apply lm_sAA); exact rfl; exact rfl)
    | ((with_reducible apply lm_sA); (first | exact rfl | assumption); omega)
    | ((with_reducible apply lm_sJ); (first | exact rfl | assumption); omega)
    | ((with_reducible apply lm_sB); (first | exact rfl | assumption); omega)
    | ((with_reducible apply lm_wA); (first | exact rfl | assumption); omega)
    | ((with_reducible apply lm_wJ); (first | exact rfl | assumption); omega)
    | ((with_reducible apply lm_wB); (first | exact rfl | assumption); omega)
    | ((with_reducible apply lm_sAl); (first | exact rfl | assumption); omega)
    | ((with_reducible apply lm_iW); decide))
            rw [e37', eH]
            refine lm_neT (by omega) (by omega) (fun q => cf ⟨by omega, q⟩) ?_
            exact e164 _ _ R K) 256 0 (by omega) m1 n1 ⟨rfl, fun _ _ => rfl, fun c' hc' => absurd hc' (by omega), fun _ _ => rfl⟩
    subst en
    have epp := lm_pp_e inc bH
    refine ⟨m2, n2, ⟨rfl, fun r hr => by rw [a1 r (by omega), g1 r (by omega)], fun i' hi' c hc => ?_⟩, fun R K => lm_e256_41 ?_⟩
    · by_cases c0 : i' = i
      · subst c0; exact a2 c hc
      · rw [a1 _ (by omega)]; exact g2 i' (by omega) c hc
    · clear a2 g2 hW
      unfold lm_q256_41
      repeat (first
    | ((with_reducible apply lm_sI); exact rfl)
    | ((with_reducible apply lm_sR); exact rfl)
    | ((with_reducible apply lm_sS); exact rfl; exact rfl)
    | ((with_reducible apply lm_sL); exact rfl)
    | ((with_reducible apply lm_sP); exact rfl; exact rfl)
    | ((with_reducible apply lm_sPL); exact rfl; exact rfl)
    | ((with_reducible apply lm_sAA); exact rfl; exact rfl)
    | ((with_reducible apply lm_sA); (first | exact rfl | assumption); omega)
    | ((with_reducible apply lm_sJ); (first | exact rfl | assumption); omega)
    | ((with_reducible apply lm_sB); (first | exact rfl | assumption); omega)
    | ((with_reducible apply lm_wA); (first | exact rfl | assumption); omega)
    | ((with_reducible apply lm_wJ); (first | exact rfl | assumption); omega)
    | ((with_reducible apply lm_wB); (first | exact rfl | assumption); omega)
    | ((with_reducible apply lm_sAl); (first | exact rfl | assumption); omega)
    | ((with_reducible apply lm_iW); decide))
      simp only [Nat.reduceDiv, Nat.reduceMod]
      rw [e76, h.2.1]
      refine lm_geF (by omega) (by omega) (by omega) ?_
      rw [lm_oo, lm_oo]
      repeat (first
    | ((with_reducible apply lm_sI); exact rfl)
    | ((with_reducible apply lm_sR); exact rfl)
    | ((with_reducible apply lm_sS); exact rfl; exact rfl)
    | ((with_reducible apply lm_sL); exact rfl)
    | ((with_reducible apply lm_sP); exact rfl; exact rfl)
    | ((with_reducible apply lm_sPL); exact rfl; exact rfl)
    | ((with_reducible apply lm_sAA); exact rfl; exact rfl)
    | ((with_reducible apply lm_sA); (first | exact rfl | assumption); omega)
    | ((with_reducible apply lm_sJ); (first | exact rfl | assumption); omega)
    | ((with_reducible apply lm_sB); (first | exact rfl | assumption); omega)
    | ((with_reducible apply lm_wA); (first | exact rfl | assumption); omega)
    | ((with_reducible apply lm_wJ); (first | exact rfl | assumption); omega)
    | ((with_reducible apply lm_wB); (first | exact rfl | assumption); omega)
    | ((with_reducible apply lm_sAl); (first | exact rfl | assumption); omega)
    | ((with_reducible apply lm_iW); decide))
      rw [e37, eC, lm_K0]
      refine k2 R (lm_e256_67 ?_)
      unfold lm_q256_67
      rw [lm_K256]
      refine lm_geT (by omega) (by omega) (by omega) ?_
      rw [epp, hcn, lm_K1, lm_oo]
      exact K) (lm_dk s) 0 (by omega) m n ⟨rfl, fun _ _ => rfl, fun i' hi' => absurd hi' (by omega)⟩
  subst en
  refine ⟨m1, ?_, fun r hr => g1 r (by omega), g2⟩
  clear g2 hW
  have fin : lm_rn (lm_sc xs) (d + 2) lm_m256.2.2.2.2.1 (lm_reg lm_m256.2.2.2.2.2) (41, [(0, .ref 76), (1, .ref 37), (2, .int (Int32.ofNat (lm_do s))), (3, .int (Int32.ofNat P)), (4, .int (Int32.ofNat (lm_mq s))), (5, .int (Int32.ofNat 0)), (6, .int (Int32.ofNat 0))], []) (lm_w m n1 x) = some (.ok none, lm_w m1 n1 x) := by
    refine k1 _ (lm_e256_41 ?_)
    unfold lm_q256_41
    repeat (first
    | ((with_reducible apply lm_sI); exact rfl)
    | ((with_reducible apply lm_sR); exact rfl)
    | ((with_reducible apply lm_sS); exact rfl; exact rfl)
    | ((with_reducible apply lm_sL); exact rfl)
    | ((with_reducible apply lm_sP); exact rfl; exact rfl)
    | ((with_reducible apply lm_sPL); exact rfl; exact rfl)
    | ((with_reducible apply lm_sAA); exact rfl; exact rfl)
    | ((with_reducible apply lm_sA); (first | exact rfl | assumption); omega)
    | ((with_reducible apply lm_sJ); (first | exact rfl | assumption); omega)
    | ((with_reducible apply lm_sB); (first | exact rfl | assumption); omega)
    | ((with_reducible apply lm_wA); (first | exact rfl | assumption); omega)
    | ((with_reducible apply lm_wJ); (first | exact rfl | assumption); omega)
    | ((with_reducible apply lm_wB); (first | exact rfl | assumption); omega)
    | ((with_reducible apply lm_sAl); (first | exact rfl | assumption); omega)
    | ((with_reducible apply lm_iW); decide))
    simp only [Nat.reduceDiv, Nat.reduceMod]
    rw [g1 76 (by omega), h.2.1]
    exact lm_geT (by omega) (by omega) (by omega) rfl
  refine lm_cal_of (Y := lm_m256) rfl rfl (lm_e256_0 ?_)
  unfold lm_q256_0
  repeat (first
    | ((with_reducible apply lm_sI); exact rfl)
    | ((with_reducible apply lm_sR); exact rfl)
    | ((with_reducible apply lm_sS); exact rfl; exact rfl)
    | ((with_reducible apply lm_sL); exact rfl)
    | ((with_reducible apply lm_sP); exact rfl; exact rfl)
    | ((with_reducible apply lm_sPL); exact rfl; exact rfl)
    | ((with_reducible apply lm_sAA); exact rfl; exact rfl)
    | ((with_reducible apply lm_sA); (first | exact rfl | assumption); omega)
    | ((with_reducible apply lm_sJ); (first | exact rfl | assumption); omega)
    | ((with_reducible apply lm_sB); (first | exact rfl | assumption); omega)
    | ((with_reducible apply lm_wA); (first | exact rfl | assumption); omega)
    | ((with_reducible apply lm_wJ); (first | exact rfl | assumption); omega)
    | ((with_reducible apply lm_wB); (first | exact rfl | assumption); omega)
    | ((with_reducible apply lm_sAl); (first | exact rfl | assumption); omega)
    | ((with_reducible apply lm_iW); decide))
  simp only [Nat.reduceDiv, Nat.reduceMod]
  rw [h.1]
  refine ln_tb15 hs ?_
  repeat (first
    | ((with_reducible apply lm_sI); exact rfl)
    | ((with_reducible apply lm_sR); exact rfl)
    | ((with_reducible apply lm_sS); exact rfl; exact rfl)
    | ((with_reducible apply lm_sL); exact rfl)
    | ((with_reducible apply lm_sP); exact rfl; exact rfl)
    | ((with_reducible apply lm_sPL); exact rfl; exact rfl)
    | ((with_reducible apply lm_sAA); exact rfl; exact rfl)
    | ((with_reducible apply lm_sA); (first | exact rfl | assumption); omega)
    | ((with_reducible apply lm_sJ); (first | exact rfl | assumption); omega)
    | ((with_reducible apply lm_sB); (first | exact rfl | assumption); omega)
    | ((with_reducible apply lm_wA); (first | exact rfl | assumption); omega)
    | ((with_reducible apply lm_wJ); (first | exact rfl | assumption); omega)
    | ((with_reducible apply lm_wB); (first | exact rfl | assumption); omega)
    | ((with_reducible apply lm_sAl); (first | exact rfl | assumption); omega)
    | ((with_reducible apply lm_iW); decide))
  refine lm_cI (lm_u248 (d := d) hs h) ?_
  repeat (first
    | ((with_reducible apply lm_sI); exact rfl)
    | ((with_reducible apply lm_sR); exact rfl)
    | ((with_reducible apply lm_sS); exact rfl; exact rfl)
    | ((with_reducible apply lm_sL); exact rfl)
    | ((with_reducible apply lm_sP); exact rfl; exact rfl)
    | ((with_reducible apply lm_sPL); exact rfl; exact rfl)
    | ((with_reducible apply lm_sAA); exact rfl; exact rfl)
    | ((with_reducible apply lm_sA); (first | exact rfl | assumption); omega)
    | ((with_reducible apply lm_sJ); (first | exact rfl | assumption); omega)
    | ((with_reducible apply lm_sB); (first | exact rfl | assumption); omega)
    | ((with_reducible apply lm_wA); (first | exact rfl | assumption); omega)
    | ((with_reducible apply lm_wJ); (first | exact rfl | assumption); omega)
    | ((with_reducible apply lm_wB); (first | exact rfl | assumption); omega)
    | ((with_reducible apply lm_sAl); (first | exact rfl | assumption); omega)
    | ((with_reducible apply lm_iW); decide))
  simp only [Nat.reduceDiv, Nat.reduceMod]
  rw [h.1]
  refine ln_tb12 hs ?_
  rw [h.2.1, lm_osu (by omega), lm_osu (by omega), show lm_dps s - lm_do s - lm_dk s = P by omega, lm_K0]
  clear k1 g1 eH eC bH ho
  match s, hs with
  | 0, _ => exact lm_iW (show ¬ Int32.ofNat 95232 = 0 by decide) fin
  | 1, _ => exact lm_iW (show ¬ Int32.ofNat 261888 = 0 by decide) fin
  | 2, _ => exact lm_iW (show ¬ Int32.ofNat 261888 = 0 by decide) fin
end LMVD
