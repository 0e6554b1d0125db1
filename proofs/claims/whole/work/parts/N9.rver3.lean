/-! ===== dsaVerify of the reference: a row ===== -/
def lm_vn (T : Nat) : Nat := (8380417 - T * 8192 % 8380417) % 8380417
theorem lm_vn_b {T : Nat} : lm_vn T ≤ 8380416 := by
  have : lm_vn T < 8380417 := Nat.mod_lt _ (by decide)
  omega
theorem lm_vn_cg {T : Nat} : ln_cg 8380417 ((lm_vn T : Nat) : Int) (-((T * 8192 : Nat) : Int)) := by
  have h : T * 8192 % 8380417 < 8380417 := Nat.mod_lt _ (by decide)
  have e : ((lm_vn T : Nat) : Int) = (8380417 - ((T * 8192 : Nat) : Int) % 8380417) % 8380417 := by
    unfold lm_vn
    rw [Int.natCast_emod, Int.natCast_sub (by omega), Int.natCast_emod]
    rfl
  rw [e]
  refine ln_cg.em.tr ((ln_cg.sb ln_cg.rf ln_cg.em).tr ⟨1, ?_⟩)
  omega
theorem lm_vn_e {b : Nat} (hb : b < 1024) : lm_rem (Int64.toInt32 ((Int64.ofNat 8380417) - (lm_remL ((Int32.toInt64 (Int32.ofNat b)) * (Int64.ofNat 8192)) (Int64.ofNat 8380417)))) (Int32.ofInt 8380417) = Int32.ofInt ((lm_vn b : Nat) : Int) := by
  have h : b * 8192 % 8380417 < 8380417 := Nat.mod_lt _ (by decide)
  rw [lm_i2l (by omega), lm_lom, lm_lrm (by omega) (by decide), lm_lsu (by omega), lm_l2i, show Int32.ofInt 8380417 = Int32.ofNat 8380417 from rfl, lm_orm (by omega) (by decide), lm_oN]
  rfl
def ln_cn (P : Nat → Int) (A : Nat → Nat → Int) : Nat → Nat → Int
  | 0 => P
  | t + 1 => A t
theorem lm_pt_neg {F : Nat → Int} {j : Nat} : ln_pt (fun c => -F c) j = -ln_pt F j := by
  unfold ln_pt
  rw [show (fun t => -F t * lm_gm lm_zd (256 + j) ^ t) = fun t => (F t * lm_gm lm_zd (256 + j) ^ t) * (-1) from funext fun t => by rw [Int.mul_neg, Int.mul_one, Int.neg_mul], lm_sg_mul, Int.mul_neg, Int.mul_one]
theorem lm_vW_as {A : Nat → Nat → Nat → Int} {Z W : Nat → Nat → Int} {B P Bp : Nat → Int} {T : Nat → Nat → Nat} {l i c : Nat} (hP : ∀ j, j < 256 → ln_cg 8380417 (P j) (-ln_pt (fun c => ((T i c * 8192 : Nat) : Int)) j)) (hB : ∀ j, j < 256 → ln_cg 8380417 (Bp j) (ln_pt B j)) (hW : ∀ t, t < l → ∀ j, j < 256 → ln_cg 8380417 (W t j) (ln_pt (Z t) j)) : lm_ut (lm_as (ln_cn P (fun t c => A i t c)) (ln_cn Bp W) (l + 1)) c % 8380417 = ln_vW A Z B T l i c := by
  unfold ln_vW
  refine (lm_ut_cg (fun j hj => (lm_as_cg (l + 1)).tr ?_) c).eq
  rw [Nat.add_comm l 1, lm_sg_add 1 l]
  have e1 : ln_sg 1 (fun t => ln_cn P (fun t c => A i t c) t j * ln_cn Bp W t j) = P j * Bp j := by
    show 0 + P j * Bp j = P j * Bp j
    rw [Int.zero_add]
  have e2 : ln_sg l (fun u => ln_cn P (fun t c => A i t c) (1 + u) j * ln_cn Bp W (1 + u) j) = ln_sg l (fun t => A i t j * W t j) := lm_sg_ext fun u _ => by rw [Nat.add_comm 1 u]; rfl
  rw [e1, e2]
  have g1 : ln_cg 8380417 (P j * Bp j) (-(ln_pt B j * ln_pt (fun c => ((T i c * 8192 : Nat) : Int)) j)) := by
    refine ((hP j hj).mu (hB j hj)).tr (ln_cg.of ?_)
    rw [Int.neg_mul, Int.mul_comm]
  have g2 : ln_cg 8380417 (ln_sg l (fun t => A i t j * W t j)) (ln_sg l (fun t => A i t j * ln_pt (Z t) j)) := lm_sg_cg fun t ht => ln_cg.rf.mu (hW t ht j hj)
  refine (g1.ad g2).tr (ln_cg.of ?_)
  omega
section LMRC
variable {sc : lm_H} {C : lm_CX} {d s i : Nat} {m : lm_MI} {n : lm_ML} {x : lm_H × Nat × Nat} {K Q : Nat → Int32}
theorem lm_l32d (hi : i < 8) (h24 : m 203 24 = Int32.ofNat (2560 * i)) (hK : ∀ u, u < 32 + 320 * (i + 1) → lm_b8 (m 207 u) = lm_b8 (K u)) : ∃ m', ((∀ r, r ≠ 203 → r ≠ 315 → m' r = m r) ∧ (∀ j, j ≠ 24 → m' 203 j = m 203 j) ∧ m' 203 24 = Int32.ofNat (2560 * (i + 1)) ∧ ∀ c, c < 256 → m' 315 c = Int32.ofInt ((lm_vn (ln_v1 K i c) : Nat) : Int)) ∧ ∀ R, lm_rn sc (d + 7) lm_m32.2.2.2.2.1 (lm_reg lm_m32.2.2.2.2.2) (418, [(0, .ref 203), (4, .int (Int32.ofNat i)), (5, .int (Int32.ofNat 256))], []) (lm_w m' n x) = some R → lm_rn sc (d + 7) lm_m32.2.2.2.2.1 (lm_reg lm_m32.2.2.2.2.2) (418, [(0, .ref 203), (4, .int (Int32.ofNat i)), (5, .int (Int32.ofNat 0))], []) (lm_w m n x) = some R := by
  obtain ⟨m1, n1, ⟨en, g1, g2, g3, g4⟩, k1⟩ := lm_lp (sc := sc) (d := d + 7) (b := 256) (hs := lm_m32.2.2.2.2.1) (code := lm_reg lm_m32.2.2.2.2.2) (x := x) (fr := fun c => (418, [(0, .ref 203), (4, .int (Int32.ofNat i)), (5, .int (Int32.ofNat c))], [])) (I := fun c m' n' => n' = n ∧ (∀ r, r ≠ 203 → r ≠ 315 → m' r = m r) ∧ (∀ j, j ≠ 24 → m' 203 j = m 203 j) ∧ m' 203 24 = Int32.ofNat (2560 * i + 10 * c) ∧ ∀ c', c' < c → m' 315 c' = Int32.ofInt ((lm_vn (ln_v1 K i c') : Nat) : Int)) (fun c hc m1 n1 ⟨en, g1, g2, g3, g4⟩ => by
    have u77 := lm_u77 (sc := sc) (e := d + 5) (m := m1) (n := n1) (x := x) (q := 207) (v := 65536) (a := 32) (d := 10) (T := 2560 * i + 10 * c) rfl (by decide) g3 (by omega) (by decide) (by decide)
    have ev : ln_bv (ln_bt (fun j => m1 207 (32 + j))) (2560 * i + 10 * c) 10 = ln_v1 K i c := by
      rw [g1 207 (by decide) (by decide), lm_bt_K hK (by omega), show 2560 * i + 10 * c = 8 * (320 * i) + c * 10 by omega, lm_bt_sh2]
      rfl
    rw [ev] at u77
    generalize eM : lm_u m1 203 24 (Int32.ofNat (2560 * i + 10 * c + 10)) = M at u77
    have rM : ∀ r, r ≠ 203 → M r = m1 r := fun r hr => by rw [← eM, lm_u_row hr]
    refine ⟨lm_u M 315 c (Int32.ofInt ((lm_vn (ln_v1 K i c) : Nat) : Int)), n1, ⟨en, fun r q1 q2 => by rw [lm_u_row q2, rM r q1, g1 r q1 q2], fun j hj => by rw [lm_u_row (by decide), ← eM, lm_u_ne (fun g => hj g.2), g2 j hj], by rw [lm_u_row (by decide), ← eM, lm_u_eq, Nat.mul_succ, Nat.add_assoc], fun c' hc' => ?_⟩, fun R KK => lm_e32_418 ?_⟩
    · by_cases c0 : c' = c
      · subst c0; rw [lm_u_eq]
      · rw [lm_u_ne (fun g => c0 g.2), rM 315 (by decide)]; exact g4 c' (by omega)
    · clear g4
      unfold lm_q32_418
      rw [lm_K256]
      refine lm_geF (by omega) (by omega) (by omega) ?_
      rw [show Int32.ofInt 45 = Int32.ofNat 45 from rfl, show Int32.ofInt 10 = Int32.ofNat 10 from rfl, lm_K1, lm_K32]
      repeat (first
    | ((with_reducible apply lm_sI); exact rfl)
    | ((with_reducible apply lm_sR); exact rfl)
    | ((with_reducible apply lm_sS); exact rfl; exact rfl)
    | ((with_reducible apply lm_sL); exact rfl)
    | ((with_reducible apply lm_sP); exact rfl; exact rfl)
    | ((with_reducible apply lm_sPL); exact rfl; exact rfl)
    | ((with_reducible apply lm_sAA); exact rfl; exact rfl)
    | ((with_reducible apply lm_sA); (first | exact rfl | assumption); omega)
    | ((with_reducible apply lm_sJ); (first | exact rfl | assumption); omega)
    | ((with_reducible apply lm_sB); (first | exact rfl | assumption); omega)
    | ((with_reducible apply lm_wA); (first | exact rfl | assumption); omega)
    | ((with_reducible apply lm_wJ); (first | exact rfl | assumption); omega)
    | ((with_reducible apply lm_wB); (first | exact rfl | assumption); omega)
    | ((with_reducible apply lm_sAl); (first | exact rfl | assumption); omega)
    | ((with_reducible apply lm_iW); decide))
      refine lm_cI u77 ?_
      refine lm_iW (by decide) ?_
      refine lm_iW (by decide) ?_
      rw [lm_vn_e ln_v1_b]
      repeat (first
    | ((with_reducible apply lm_sI); exact rfl)
    | ((with_reducible apply lm_sR); exact rfl)
    | ((with_reducible apply lm_sS); exact rfl; exact rfl)
    | ((with_reducible apply lm_sL); exact rfl)
    | ((with_reducible apply lm_sP); exact rfl; exact rfl)
    | ((with_reducible apply lm_sPL); exact rfl; exact rfl)
    | ((with_reducible apply lm_sAA); exact rfl; exact rfl)
    | ((with_reducible apply lm_sA); (first | exact rfl | assumption); omega)
    | ((with_reducible apply lm_sJ); (first | exact rfl | assumption); omega)
    | ((with_reducible apply lm_sB); (first | exact rfl | assumption); omega)
    | ((with_reducible apply lm_wA); (first | exact rfl | assumption); omega)
    | ((with_reducible apply lm_wJ); (first | exact rfl | assumption); omega)
    | ((with_reducible apply lm_wB); (first | exact rfl | assumption); omega)
    | ((with_reducible apply lm_sAl); (first | exact rfl | assumption); omega)
    | ((with_reducible apply lm_iW); decide))
      rw [lm_oo]
      exact KK) 256 0 (by omega) m n ⟨rfl, fun _ _ _ => rfl, fun _ _ => rfl, h24, fun c' hc' => absurd hc' (by omega)⟩
  subst en
  exact ⟨m1, ⟨g1, g2, g3, g4⟩, k1⟩
/-- a row's sum -/
def lm_I528 (C : lm_CX) (K : Nat → Int32) (P Bp : Nat → Int) (W : Nat → Nat → Int) (i : Nat) (m0 : lm_MI) (n0 : lm_ML) (t : Nat) (m : lm_MI) (n : lm_ML) : Prop := (∀ r, r ≠ 203 → r ≠ 227 → r ≠ 270 + (30 + i) → r ≠ 317 → m r = m0 r) ∧ ln_fD m0 n0 m n ∧ m 203 4 = 0 ∧ m 203 24 = m0 203 24 ∧ (∀ t', t' < t → (lm_xA C K 0 i t').1 = 256) ∧ ∀ c, c < 256 → m (270 + (30 + i)) c = Int32.ofInt (lm_as (ln_cn P (fun t c => lm_xAm C K i t c)) (ln_cn Bp W) (t + 1) c)
def lm_E528 (C : lm_CX) (K : Nat → Int32) (l i : Nat) (m0 : lm_MI) (n0 : lm_ML) (x : lm_H × Nat × Nat) (R : Except Nat lm_R × lm_S) : Prop := ∃ m n, R = (.ok (some (.int 0)), lm_w m n x) ∧ (∀ r, r ≠ 203 → r ≠ 227 → r ≠ 270 + (30 + i) → r ≠ 317 → m r = m0 r) ∧ ln_fD m0 n0 m n ∧ m 203 4 = Int32.ofInt 4 ∧ ∃ t, t < l ∧ (lm_xA C K 0 i t).1 ≠ 256
theorem lm_l32e {P Bp : Nat → Int} {W : Nat → Nat → Int} (hs : s ≤ 2) (h : lm_RD C s m n) (h4 : m 203 4 = 0) (hi : i < lm_dk s) (hK : ∀ u, u < 32 → lm_b8 (m 207 u) = lm_b8 (K u)) (hW : ∀ t, t < lm_dl s → ∀ c, c < 256 → m (270 + t) c = Int32.ofInt (W t c) ∧ 0 ≤ W t c ∧ W t c ≤ 8380416) (hS : ∀ c, c < 256 → m (270 + (30 + i)) c = Int32.ofInt (lm_as (ln_cn P (fun t c => lm_xAm C K i t c)) (ln_cn Bp W) 1 c)) : (∃ m' n', lm_I528 C K P Bp W i m n (lm_dl s) m' n' ∧ ∀ R, lm_rn sc (d + 7) lm_m32.2.2.2.2.1 (lm_reg lm_m32.2.2.2.2.2) (528, [(0, .ref 203), (4, .int (Int32.ofNat i)), (5, .int (Int32.ofNat (lm_dl s)))], []) (lm_w m' n' x) = some R → lm_rn sc (d + 7) lm_m32.2.2.2.2.1 (lm_reg lm_m32.2.2.2.2.2) (528, [(0, .ref 203), (4, .int (Int32.ofNat i)), (5, .int (Int32.ofNat 0))], []) (lm_w m n x) = some R) ∨ ∃ R, lm_E528 C K (lm_dl s) i m n x R ∧ lm_rn sc (d + 7) lm_m32.2.2.2.2.1 (lm_reg lm_m32.2.2.2.2.2) (528, [(0, .ref 203), (4, .int (Int32.ofNat i)), (5, .int (Int32.ofNat 0))], []) (lm_w m n x) = some R := by
  have hkl := lm_dkl hs
  have aZ := lm_arY (30 + i) (by omega)
  refine lm_lpe (sc := sc) (d := d + 7) (b := lm_dl s) (hs := lm_m32.2.2.2.2.1) (code := lm_reg lm_m32.2.2.2.2.2) (x := x) (fr := fun t => (528, [(0, .ref 203), (4, .int (Int32.ofNat i)), (5, .int (Int32.ofNat t))], [])) (I := fun t m' n' => lm_I528 C K P Bp W i m n t m' n') (E := lm_E528 C K (lm_dl s) i m n x) (fun t ht m1 n1 ⟨g1, g2, g3, g24, g4, g5⟩ => ?_) (lm_dl s) 0 (by omega) m n ⟨fun _ _ _ _ _ => rfl, .rf, h4, rfl, fun t' ht' => absurd ht' (by omega), hS⟩
  have e207 : m1 207 = m 207 := g1 207 (by decide) (by decide) (by omega) (by decide)
  have h1 : lm_RD C s m1 n1 := h.keepD g2 (g1 221 (by decide) (by decide) (by omega) (by decide)) (g1 268 (by decide) (by decide) (by omega) (by decide))
  have e42 : m1 203 42 = Int32.ofNat (lm_dl s) := h1.2.2.1
  obtain ⟨m2, n2, c2, f2, gG, v2⟩ := lm_u91 (sc := sc) (d := d + 2) (m := m1) (n := n1) (x := x) (p := 317) (q := 207) (v := 65536) (a := 0) (w1 := Int32.ofNat t) (w2 := Int32.ofNat i) h1.1 rfl (by decide) rfl (by decide) (by decide) (by decide)
  have eK : lm_dw' (lm_B11 C (ln_gs (m1 207) 0 (Int32.ofNat t) (Int32.ofNat i))) 298 = lm_xA C K 0 i t := by
    rw [lm_xA_e, lm_gs_ext (K' := K) (a' := 0) (fun u hu => by rw [Nat.zero_add, e207]; exact hK u hu)]
  rw [eK] at c2 v2
  have u49 := fun b => lm_u49 (sc := sc) (d := d + 6) (m := m2) (n := n2) (x := x) (k := Int32.ofInt 4) b
  have pre : ∀ R, lm_bind (lm_asI (lm_cal sc (d + 7) 91 [.ref 203, .ref 317, .ref 207, .int (Int32.ofNat 0), .int (Int32.ofNat t), .int (Int32.ofNat i)])) (fun v11 => lm_bind (lm_sel [(11, 49)] (some (.ref 203))) fun y12 => lm_bind (lm_asI (lm_cal sc (d + 7) y12 [.ref 203, .int v11, .int (Int32.ofInt 4)])) fun v13 => lm_if .ne v13 0 (lm_bind (lm_gR 4554 203) fun v14 => lm_bind (lm_aaR sc v14 (Int32.ofNat (30 + i))) fun v15 => lm_bind (lm_gR 4554 203) fun v16 => lm_bind (lm_aaR sc v16 (Int32.ofNat 47)) fun v17 => lm_bind (lm_gR 4554 203) fun v18 => lm_bind (lm_aaR sc v18 (Int32.ofNat t)) fun v19 => lm_bind (lm_asV (lm_cal sc (d + 7) 92 [.ref v15, .ref v17, .ref v19])) fun _ => lm_rn sc (d + 7) lm_m32.2.2.2.2.1 (lm_reg lm_m32.2.2.2.2.2) (528, [(0, .ref 203), (4, .int (Int32.ofNat i)), (5, .int (Int32.ofNat t + Int32.ofNat 1))], [])) (lm_when (Int32.ofNat 0 = 0 ∨ Int32.ofNat 0 = 1) inferInstance (lm_ret (some (.int (Int32.ofNat 0)))))) (lm_w m1 n1 x) = some R → lm_rn sc (d + 7) lm_m32.2.2.2.2.1 (lm_reg lm_m32.2.2.2.2.2) (528, [(0, .ref 203), (4, .int (Int32.ofNat i)), (5, .int (Int32.ofNat t))], []) (lm_w m1 n1 x) = some R := by
    intro R KK
    clear c2 v2 g4 u49 eK g5
    refine lm_e32_528 ?_
    unfold lm_q32_528
    repeat (first
    | ((with_reducible apply lm_sI); exact rfl)
    | ((with_reducible apply lm_sR); exact rfl)
    | ((with_reducible apply lm_sS); exact rfl; exact rfl)
    | ((with_reducible apply lm_sL); exact rfl)
    | ((with_reducible apply lm_sP); exact rfl; exact rfl)
    | ((with_reducible apply lm_sPL); exact rfl; exact rfl)
    | ((with_reducible apply lm_sAA); exact rfl; exact rfl)
    | ((with_reducible apply lm_sA); (first | exact rfl | assumption); omega)
    | ((with_reducible apply lm_sJ); (first | exact rfl | assumption); omega)
    | ((with_reducible apply lm_sB); (first | exact rfl | assumption); omega)
    | ((with_reducible apply lm_wA); (first | exact rfl | assumption); omega)
    | ((with_reducible apply lm_wJ); (first | exact rfl | assumption); omega)
    | ((with_reducible apply lm_wB); (first | exact rfl | assumption); omega)
    | ((with_reducible apply lm_sAl); (first | exact rfl | assumption); omega)
    | ((with_reducible apply lm_iW); decide))
    simp only [Nat.reduceDiv, Nat.reduceMod]
    rw [e42]
    refine lm_geF (by omega) (by omega) (by omega) ?_
    rw [show Int32.ofInt 47 = Int32.ofNat 47 from rfl, show Int32.ofInt 30 = Int32.ofNat 30 from rfl, lm_oo, lm_K0, lm_K1]
    repeat (first
    | ((with_reducible apply lm_sI); exact rfl)
    | ((with_reducible apply lm_sR); exact rfl)
    | ((with_reducible apply lm_sS); exact rfl; exact rfl)
    | ((with_reducible apply lm_sL); exact rfl)
    | ((with_reducible apply lm_sP); exact rfl; exact rfl)
    | ((with_reducible apply lm_sPL); exact rfl; exact rfl)
    | ((with_reducible apply lm_sAA); exact rfl; exact rfl)
    | ((with_reducible apply lm_sA); (first | exact rfl | assumption); omega)
    | ((with_reducible apply lm_sJ); (first | exact rfl | assumption); omega)
    | ((with_reducible apply lm_sB); (first | exact rfl | assumption); omega)
    | ((with_reducible apply lm_wA); (first | exact rfl | assumption); omega)
    | ((with_reducible apply lm_wJ); (first | exact rfl | assumption); omega)
    | ((with_reducible apply lm_wB); (first | exact rfl | assumption); omega)
    | ((with_reducible apply lm_sAl); (first | exact rfl | assumption); omega)
    | ((with_reducible apply lm_iW); decide))
    exact KK
  by_cases c : (lm_xA C K 0 i t).1 = 256
  · rw [decide_eq_true c] at c2
    have u := u49 true
    generalize eM : lm_u m2 203 4 (cond true 0 (Int32.ofInt 4)) = M at u
    have rM : ∀ r, r ≠ 203 → M r = m2 r := fun r hr => by rw [← eM, lm_u_row hr]
    have gM : ln_fD m n M n2 := g2.tr (gG.B.D.tr (by rw [← eM]; exact .u4))
    have v3 : ∀ cc, cc < 256 → M 317 cc = Int32.ofInt (lm_xAm C K i t cc) := fun cc hcc => by
      rw [rM 317 (by decide), v2 cc (by rw [c]; exact hcc), lm_oN, lm_xAm_e]
    have ba : lm_bnd 8380416 (fun cc => lm_xAm C K i t cc) := fun cc hcc => by
      have := lm_xA_lt c hcc
      show -8380416 ≤ lm_xAm C K i t cc ∧ lm_xAm C K i t cc ≤ 8380416
      rw [lm_xAm_e]
      generalize (lm_xA C K 0 i t).2 cc = z at this
      omega
    obtain ⟨m3, c3, p3⟩ := lm_u92 (sc := sc) (d := d + 6) (m0 := M) (m := M) (n := n2) (x := x) (p := 270 + (30 + i)) (f := 317) (g := 270 + t) (S := lm_as (ln_cn P (fun t c => lm_xAm C K i t c)) (ln_cn Bp W) (t + 1)) (F := fun cc => lm_xAm C K i t cc) (H := W t) aZ rfl (lm_arY t (by omega)) (by omega) (by omega) ⟨fun _ _ => rfl, fun cc hcc => by rw [rM _ (by omega), f2 _ (by omega) (by omega) (by omega)]; exact g5 cc hcc⟩ v3 (fun cc hcc => by rw [rM _ (by omega), f2 _ (by omega) (by omega) (by omega), g1 _ (by omega) (by omega) (by omega) (by omega)]; exact (hW t ht cc hcc).1) (lm_as_b (t + 1)) ba (fun cc hcc => by have := hW t ht cc hcc; omega)
    refine Or.inl ⟨m3, n2, ⟨fun r q1 q2 q3 q4 => by rw [p3.1 r q3, rM r q1, f2 r q1 q2 q4, g1 r q1 q2 q3 q4], ?_, ?_, ?_, fun t' ht' => ?_, p3.2⟩, fun R KK => pre R (lm_cI c2 ?_)⟩
    · exact gM.tr (lm_fB.of (p3.1 203 (by omega))).D
    · rw [p3.1 203 (by omega), ← eM, lm_u_eq]
      rfl
    · rw [p3.1 203 (by omega), ← eM, lm_u_ne (by decide), gG.1 24 (by decide) (by decide) (by decide), g24]
    · by_cases c0 : t' = t
      · subst c0; exact c
      · exact g4 t' (by omega)
    · clear v2 g4 c ba v3 eK g5
      repeat (first
    | ((with_reducible apply lm_sI); exact rfl)
    | ((with_reducible apply lm_sR); exact rfl)
    | ((with_reducible apply lm_sS); exact rfl; exact rfl)
    | ((with_reducible apply lm_sL); exact rfl)
    | ((with_reducible apply lm_sP); exact rfl; exact rfl)
    | ((with_reducible apply lm_sPL); exact rfl; exact rfl)
    | ((with_reducible apply lm_sAA); exact rfl; exact rfl)
    | ((with_reducible apply lm_sA); (first | exact rfl | assumption); omega)
    | ((with_reducible apply lm_sJ); (first | exact rfl | assumption); omega)
    | ((with_reducible apply lm_sB); (first | exact rfl | assumption); omega)
    | ((with_reducible apply lm_wA); (first | exact rfl | assumption); omega)
    | ((with_reducible apply lm_wJ); (first | exact rfl | assumption); omega)
    | ((with_reducible apply lm_wB); (first | exact rfl | assumption); omega)
    | ((with_reducible apply lm_sAl); (first | exact rfl | assumption); omega)
    | ((with_reducible apply lm_iW); decide))
      refine lm_cI u ?_
      refine lm_iT (show ¬ (1 : Int32) = 0 by decide) ?_
      repeat (first
    | ((with_reducible apply lm_sI); exact rfl)
    | ((with_reducible apply lm_sR); exact rfl)
    | ((with_reducible apply lm_sS); exact rfl; exact rfl)
    | ((with_reducible apply lm_sL); exact rfl)
    | ((with_reducible apply lm_sP); exact rfl; exact rfl)
    | ((with_reducible apply lm_sPL); exact rfl; exact rfl)
    | ((with_reducible apply lm_sAA); exact rfl; exact rfl)
    | ((with_reducible apply lm_sA); (first | exact rfl | assumption); omega)
    | ((with_reducible apply lm_sJ); (first | exact rfl | assumption); omega)
    | ((with_reducible apply lm_sB); (first | exact rfl | assumption); omega)
    | ((with_reducible apply lm_wA); (first | exact rfl | assumption); omega)
    | ((with_reducible apply lm_wJ); (first | exact rfl | assumption); omega)
    | ((with_reducible apply lm_wB); (first | exact rfl | assumption); omega)
    | ((with_reducible apply lm_sAl); (first | exact rfl | assumption); omega)
    | ((with_reducible apply lm_iW); decide))
      refine lm_sAA rfl (lm_roY (30 + i) (by omega)) ?_
      repeat (first
    | ((with_reducible apply lm_sI); exact rfl)
    | ((with_reducible apply lm_sR); exact rfl)
    | ((with_reducible apply lm_sS); exact rfl; exact rfl)
    | ((with_reducible apply lm_sL); exact rfl)
    | ((with_reducible apply lm_sP); exact rfl; exact rfl)
    | ((with_reducible apply lm_sPL); exact rfl; exact rfl)
    | ((with_reducible apply lm_sAA); exact rfl; exact rfl)
    | ((with_reducible apply lm_sA); (first | exact rfl | assumption); omega)
    | ((with_reducible apply lm_sJ); (first | exact rfl | assumption); omega)
    | ((with_reducible apply lm_sB); (first | exact rfl | assumption); omega)
    | ((with_reducible apply lm_wA); (first | exact rfl | assumption); omega)
    | ((with_reducible apply lm_wJ); (first | exact rfl | assumption); omega)
    | ((with_reducible apply lm_wB); (first | exact rfl | assumption); omega)
    | ((with_reducible apply lm_sAl); (first | exact rfl | assumption); omega)
    | ((with_reducible apply lm_iW); decide))
      refine lm_sAA rfl (lm_roY t (by omega)) ?_
      refine lm_cV c3 ?_
      rw [lm_oo]
      exact KK
  · rw [decide_eq_false c] at c2
    refine Or.inr ⟨_, ⟨lm_u m2 203 4 (Int32.ofInt 4), n2, rfl, fun r q1 q2 q3 q4 => by rw [lm_u_row q1, f2 r q1 q2 q4, g1 r q1 q2 q3 q4], g2.tr (gG.B.D.tr .u4), lm_u_eq, t, ht, c⟩, pre _ (lm_cI c2 ?_)⟩
    repeat (first
    | ((with_reducible apply lm_sI); exact rfl)
    | ((with_reducible apply lm_sR); exact rfl)
    | ((with_reducible apply lm_sS); exact rfl; exact rfl)
    | ((with_reducible apply lm_sL); exact rfl)
    | ((with_reducible apply lm_sP); exact rfl; exact rfl)
    | ((with_reducible apply lm_sPL); exact rfl; exact rfl)
    | ((with_reducible apply lm_sAA); exact rfl; exact rfl)
    | ((with_reducible apply lm_sA); (first | exact rfl | assumption); omega)
    | ((with_reducible apply lm_sJ); (first | exact rfl | assumption); omega)
    | ((with_reducible apply lm_sB); (first | exact rfl | assumption); omega)
    | ((with_reducible apply lm_wA); (first | exact rfl | assumption); omega)
    | ((with_reducible apply lm_wJ); (first | exact rfl | assumption); omega)
    | ((with_reducible apply lm_wB); (first | exact rfl | assumption); omega)
    | ((with_reducible apply lm_sAl); (first | exact rfl | assumption); omega)
    | ((with_reducible apply lm_iW); decide))
    refine lm_cI (u49 false) ?_
    refine lm_iF (show ¬ ¬ (0 : Int32) = 0 by decide) ?_
    exact lm_iW (by decide) rfl
end LMRC
