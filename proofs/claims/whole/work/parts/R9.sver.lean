/-! ===== slhVerify of the class ===== -/
section LMUF
variable {C : lm_CX} {s I k l j : Nat} {P S S' A V X D : Nat → Int32} {z : Int32 × Int32 × Int32} {ty u y w : Int32}
theorem lm_hch_S {i : Nat} : ∀ k, lm_hch (C, s, P, S, z) u y i X k = lm_hch (C, s, P, S', z) u y i X k := by
  intro k
  induction k with
  | zero => rfl
  | succ k ih =>
    show lm_hF (C, s, P, S, z) (Int32.ofNat 0) u y (Int32.ofNat (i + k)) (lm_hch (C, s, P, S, z) u y i X k) (lm_sn s) = lm_hF (C, s, P, S', z) (Int32.ofNat 0) u y (Int32.ofNat (i + k)) (lm_hch (C, s, P, S', z) u y i X k) (lm_sn s)
    rw [ih]
    rfl
theorem lm_hcl_S : ∀ j, lm_hcl (C, s, P, S, z) ty u I A V j = lm_hcl (C, s, P, S', z) ty u I A V j := by
  intro j
  induction j with
  | zero => rfl
  | succ j ih =>
    show lm_hF (C, s, P, S, z) ty u (Int32.ofNat (j + 1)) (Int32.ofNat (I / 2 ^ (j + 1))) (if I / 2 ^ j % 2 = 0 then lm_cat (lm_sn s) (lm_hcl (C, s, P, S, z) ty u I A V j) (fun t => A (j * lm_sn s + t)) else lm_cat (lm_sn s) (fun t => A (j * lm_sn s + t)) (lm_hcl (C, s, P, S, z) ty u I A V j)) (2 * lm_sn s) = lm_hF (C, s, P, S', z) ty u (Int32.ofNat (j + 1)) (Int32.ofNat (I / 2 ^ (j + 1))) (if I / 2 ^ j % 2 = 0 then lm_cat (lm_sn s) (lm_hcl (C, s, P, S', z) ty u I A V j) (fun t => A (j * lm_sn s + t)) else lm_cat (lm_sn s) (fun t => A (j * lm_sn s + t)) (lm_hcl (C, s, P, S', z) ty u I A V j)) (2 * lm_sn s)
    rw [ih]
    rfl
theorem lm_hre_S : lm_hre (C, s, P, S, z) u A V = lm_hre (C, s, P, S', z) u A V := funext fun t => congrFun (lm_hch_S (S := S) (S' := S') _) _
theorem lm_hrt_S : lm_hrt (C, s, P, S, z) I A V = lm_hrt (C, s, P, S', z) I A V := by
  have e : lm_hF (C, s, P, S, z) (Int32.ofNat 1) (Int32.ofNat I) (Int32.ofNat 0) (Int32.ofNat 0) (lm_hre (C, s, P, S, z) (Int32.ofNat I) A V) (lm_cw s * lm_sn s) = lm_hF (C, s, P, S', z) (Int32.ofNat 1) (Int32.ofNat I) (Int32.ofNat 0) (Int32.ofNat 0) (lm_hre (C, s, P, S', z) (Int32.ofNat I) A V) (lm_cw s * lm_sn s) := by
    rw [lm_hre_S (S := S) (S' := S')]
    rfl
  show lm_hcl (C, s, P, S, z) (Int32.ofNat 2) (Int32.ofNat 0) I (fun t => A (lm_cw s * lm_sn s + t)) (lm_hF (C, s, P, S, z) (Int32.ofNat 1) (Int32.ofNat I) (Int32.ofNat 0) (Int32.ofNat 0) (lm_hre (C, s, P, S, z) (Int32.ofNat I) A V) (lm_cw s * lm_sn s)) (lm_sh s) = lm_hcl (C, s, P, S', z) (Int32.ofNat 2) (Int32.ofNat 0) I (fun t => A (lm_cw s * lm_sn s + t)) (lm_hF (C, s, P, S', z) (Int32.ofNat 1) (Int32.ofNat I) (Int32.ofNat 0) (Int32.ofNat 0) (lm_hre (C, s, P, S', z) (Int32.ofNat I) A V) (lm_cw s * lm_sn s)) (lm_sh s)
  rw [e]
  exact lm_hcl_S _
theorem lm_hfl_S : lm_hfl (C, s, P, S, z) u D A j = lm_hfl (C, s, P, S', z) u D A j := lm_hcl_S (S := S) (S' := S') _
theorem lm_hfw_S : lm_hfw (C, s, P, S, z) u D A = lm_hfw (C, s, P, S', z) u D A := funext fun t => congrFun (lm_hfl_S (S := S) (S' := S')) _
theorem lm_hfr_S : lm_hfr (C, s, P, S, z) u D A = lm_hfr (C, s, P, S', z) u D A := by
  show lm_hF (C, s, P, S, z) (Int32.ofNat 4) u (Int32.ofNat 0) (Int32.ofNat 0) (lm_hfw (C, s, P, S, z) u D A) (ln_sT s * lm_sn s) = lm_hF (C, s, P, S', z) (Int32.ofNat 4) u (Int32.ofNat 0) (Int32.ofNat 0) (lm_hfw (C, s, P, S', z) u D A) (ln_sT s * lm_sn s)
  rw [lm_hfw_S (S := S) (S' := S')]
  rfl
/-- the roots that a verification comes by -/
def lm_vvk (C : lm_CX) (s : Nat) (P S : Nat → Int32) (T0 l0 : Nat) (V0 A : Nat → Int32) : Nat → Nat → Int32
  | 0 => V0
  | k + 1 => lm_hrt (lm_WL C s P S k (lm_tri s T0 k)) (lm_lfi s T0 l0 k) (fun t => A (lm_sn s + lm_fsz s + k * lm_lsz s + t)) (lm_vvk C s P S T0 l0 V0 A k)
def lm_vvR (C : lm_CX) (s : Nat) (P S D A : Nat → Int32) : Nat → Int32 := lm_vvk C s P S (lm_ctn s D) (lm_clf s D) (lm_hfr (lm_WL C s P S 0 (lm_ctn s D)) (Int32.ofNat (lm_clf s D)) D (fun t => A (lm_sn s + t))) A (lm_sd s)
theorem lm_vvk_S {T0 l0 : Nat} {V0 : Nat → Int32} : ∀ k, lm_vvk C s P S T0 l0 V0 A k = lm_vvk C s P S' T0 l0 V0 A k := by
  intro k
  induction k with
  | zero => rfl
  | succ k ih =>
    show lm_hrt (lm_WL C s P S k (lm_tri s T0 k)) (lm_lfi s T0 l0 k) (fun t => A (lm_sn s + lm_fsz s + k * lm_lsz s + t)) (lm_vvk C s P S T0 l0 V0 A k) = lm_hrt (lm_WL C s P S' k (lm_tri s T0 k)) (lm_lfi s T0 l0 k) (fun t => A (lm_sn s + lm_fsz s + k * lm_lsz s + t)) (lm_vvk C s P S' T0 l0 V0 A k)
    rw [ih]
    exact lm_hrt_S (S := S) (S' := S')
theorem lm_vvR_S : lm_vvR C s P S D A = lm_vvR C s P S' D A := by
  have e : lm_hfr (lm_WL C s P S 0 (lm_ctn s D)) (Int32.ofNat (lm_clf s D)) D (fun t => A (lm_sn s + t)) = lm_hfr (lm_WL C s P S' 0 (lm_ctn s D)) (Int32.ofNat (lm_clf s D)) D (fun t => A (lm_sn s + t)) := lm_hfr_S (S := S) (S' := S')
  unfold lm_vvR
  rw [e]
  exact lm_vvk_S _
end LMUF
section LMUG
variable {xs : List Int32} {C : lm_CX} {d s kk xl ml pl sl : Nat} {m m' : lm_MI} {n n' : lm_ML} {x : lm_H × Nat × Nat} {P S V0 A QR Sg D : Nat → Int32} {T0 l0 : Nat}
def lm_J191 (C : lm_CX) (s : Nat) (P S : Nat → Int32) (T0 l0 : Nat) (V0 A : Nat → Int32) (m0 : lm_MI) (n0 : lm_ML) (k : Nat) (m : lm_MI) (n : lm_ML) : Prop := lm_SY (C, s, P, S, 0, 0, 0) m n ∧ (∀ r, (r < 5 ∨ 22 < r) → r ≠ 195 → r ≠ 197 → r ≠ 198 → r ≠ 199 → r ≠ 202 → m r = m0 r) ∧ lm_fN m0 n0 m n ∧ ∀ t, t < lm_sn s → lm_b8 (m 197 t) = lm_vvk C s P S T0 l0 V0 A k t
theorem lm_l191 (hC : lm_Cok xs C) (hs : s ≤ 11) {m0 : lm_MI} {n0 : lm_ML} (hA : ∀ t, t < lm_psz s → lm_b8 (m0 37 t) = A t) (hT : T0 < 18446744073709551616) (hl : l0 < 512) : ∀ k, k < lm_sd s → ∀ m n, lm_J191 C s P S T0 l0 V0 A m0 n0 k m n → ∃ m' n', lm_J191 C s P S T0 l0 V0 A m0 n0 (k + 1) m' n' ∧ ∀ R, lm_rn (lm_sc xs) (d + 7) lm_m191.2.2.2.2.1 (lm_reg lm_m191.2.2.2.2.2) (58, [(0, .ref 194), (1, .ref 29), (3, .ref 37), (4, .ref 38), (5, .long (Int64.ofNat (lm_tri s T0 (k + 1)))), (7, .int (Int32.ofNat (lm_lfi s T0 l0 (k + 1)))), (8, .int (Int32.ofNat (lm_sn s + lm_fsz s + (k + 1) * lm_lsz s))), (9, .int (Int32.ofNat (k + 1)))], []) (lm_w m' n' x) = some R → lm_rn (lm_sc xs) (d + 7) lm_m191.2.2.2.2.1 (lm_reg lm_m191.2.2.2.2.2) (58, [(0, .ref 194), (1, .ref 29), (3, .ref 37), (4, .ref 38), (5, .long (Int64.ofNat (lm_tri s T0 k))), (7, .int (Int32.ofNat (lm_lfi s T0 l0 k))), (8, .int (Int32.ofNat (lm_sn s + lm_fsz s + k * lm_lsz s))), (9, .int (Int32.ofNat k))], []) (lm_w m n x) = some R := by
  intro k hk m n ⟨i1, i2, i3, i6⟩
  have hpar := lm_spar s hs
  have hpz := lm_psz_b s hs
  have hlz : lm_lsz s = (lm_cw s + lm_sh s) * lm_sn s := Nat.mul_comm ..
  have hk2 : k * lm_lsz s + lm_lsz s ≤ lm_sd s * lm_lsz s := by rw [← Nat.succ_mul]; exact Nat.mul_le_mul_right _ hk
  have hps : lm_psz s = lm_sn s + lm_fsz s + lm_sd s * lm_lsz s := rfl
  have hT' := lm_tri_lt (s := s) hT k
  have hl' := lm_lfi_lt (s := s) (T0 := T0) hs hl k
  obtain ⟨m1, c1, f1, S1⟩ := lm_plc (xs := xs) (d := d + 5) (x := x) (k := k) (T := lm_tri s T0 k) i1
  obtain ⟨m2, n2, c2, S2, f2, g2, v2⟩ := lm_u268 (xs := xs) (d := d) (x := x) (W := lm_WL C s P S k (lm_tri s T0 k)) (V := lm_vvk C s P S T0 l0 V0 A k) (A := fun t => A (lm_sn s + lm_fsz s + k * lm_lsz s + t)) (I := lm_lfi s T0 l0 k) (p := 37) (w := 65536) (b := lm_sn s + lm_fsz s + k * lm_lsz s) hC hs S1 (fun t ht => by rw [f1 197 (by decide)]; exact i6 t ht) (by omega) rfl (by decide) (by decide) (by decide) (by decide) (by decide) (by decide) (show lm_sn s + lm_fsz s + k * lm_lsz s + (lm_cw s + lm_sh s) * lm_sn s ≤ 65536 by omega) (by decide) (fun t ht => by
    have ht' : t < (lm_cw s + lm_sh s) * lm_sn s := ht
    rw [f1 37 (by decide), i2 37 (by decide) (by decide) (by decide) (by decide) (by decide) (by decide)]
    exact hA _ (by omega))
  have S2y : lm_SY (C, s, P, S, 0, 0, 0) m2 n2 := S2.y
  refine ⟨m2, n2, ⟨S2y, fun r r1 r2 r3 r4 r5 r6 => by rw [f2 r r1 r2 r3 r4 r5 r6, f1 r r2, i2 r r1 r2 r3 r4 r5 r6], i3.tr (lm_fN.tr (lm_fN.of (f1 11 (by decide)) (f1 17 (by decide))) g2), v2⟩, fun R KK => ?_⟩
  have u9 := lm_u269 (sc := lm_sc xs) (d := d + 6) (n := n2) (x := x) S2y.1.1
  have e6 : m2 194 6 = Int32.ofNat (lm_sh s) := S2y.1.1.2.2.2.1
  have e5 : m 194 5 = Int32.ofNat (lm_sd s) := i1.1.1.2.2.1
  clear v2 i6 hA
  refine lm_e191_58 ?_
  unfold lm_q191_58
  repeat (first
    | ((with_reducible apply lm_sI); exact rfl)
    | ((with_reducible apply lm_sR); exact rfl)
    | ((with_reducible apply lm_sS); exact rfl; exact rfl)
    | ((with_reducible apply lm_sL); exact rfl)
    | ((with_reducible apply lm_sP); exact rfl; exact rfl)
    | ((with_reducible apply lm_sPL); exact rfl; exact rfl)
    | ((with_reducible apply lm_sAA); exact rfl; exact rfl)
    | ((with_reducible apply lm_sA); (first | exact rfl | assumption); omega)
    | ((with_reducible apply lm_sJ); (first | exact rfl | assumption); omega)
    | ((with_reducible apply lm_sB); (first | exact rfl | assumption); omega)
    | ((with_reducible apply lm_wA); (first | exact rfl | assumption); omega)
    | ((with_reducible apply lm_wJ); (first | exact rfl | assumption); omega)
    | ((with_reducible apply lm_wB); (first | exact rfl | assumption); omega)
    | ((with_reducible apply lm_sAl); (first | exact rfl | assumption); omega)
    | ((with_reducible apply lm_iW); decide))
  simp only [Nat.reduceDiv, Nat.reduceMod]
  rw [e5]
  refine lm_geF (by omega) (by omega) (by omega) ?_
  repeat (first
    | ((with_reducible apply lm_sI); exact rfl)
    | ((with_reducible apply lm_sR); exact rfl)
    | ((with_reducible apply lm_sS); exact rfl; exact rfl)
    | ((with_reducible apply lm_sL); exact rfl)
    | ((with_reducible apply lm_sP); exact rfl; exact rfl)
    | ((with_reducible apply lm_sPL); exact rfl; exact rfl)
    | ((with_reducible apply lm_sAA); exact rfl; exact rfl)
    | ((with_reducible apply lm_sA); (first | exact rfl | assumption); omega)
    | ((with_reducible apply lm_sJ); (first | exact rfl | assumption); omega)
    | ((with_reducible apply lm_sB); (first | exact rfl | assumption); omega)
    | ((with_reducible apply lm_wA); (first | exact rfl | assumption); omega)
    | ((with_reducible apply lm_wJ); (first | exact rfl | assumption); omega)
    | ((with_reducible apply lm_wB); (first | exact rfl | assumption); omega)
    | ((with_reducible apply lm_sAl); (first | exact rfl | assumption); omega)
    | ((with_reducible apply lm_iW); decide))
  refine lm_cV c1 ?_
  repeat (first
    | ((with_reducible apply lm_sI); exact rfl)
    | ((with_reducible apply lm_sR); exact rfl)
    | ((with_reducible apply lm_sS); exact rfl; exact rfl)
    | ((with_reducible apply lm_sL); exact rfl)
    | ((with_reducible apply lm_sP); exact rfl; exact rfl)
    | ((with_reducible apply lm_sPL); exact rfl; exact rfl)
    | ((with_reducible apply lm_sAA); exact rfl; exact rfl)
    | ((with_reducible apply lm_sA); (first | exact rfl | assumption); omega)
    | ((with_reducible apply lm_sJ); (first | exact rfl | assumption); omega)
    | ((with_reducible apply lm_sB); (first | exact rfl | assumption); omega)
    | ((with_reducible apply lm_wA); (first | exact rfl | assumption); omega)
    | ((with_reducible apply lm_wJ); (first | exact rfl | assumption); omega)
    | ((with_reducible apply lm_wB); (first | exact rfl | assumption); omega)
    | ((with_reducible apply lm_sAl); (first | exact rfl | assumption); omega)
    | ((with_reducible apply lm_iW); decide))
  refine lm_cV c2 ?_
  repeat (first
    | ((with_reducible apply lm_sI); exact rfl)
    | ((with_reducible apply lm_sR); exact rfl)
    | ((with_reducible apply lm_sS); exact rfl; exact rfl)
    | ((with_reducible apply lm_sL); exact rfl)
    | ((with_reducible apply lm_sP); exact rfl; exact rfl)
    | ((with_reducible apply lm_sPL); exact rfl; exact rfl)
    | ((with_reducible apply lm_sAA); exact rfl; exact rfl)
    | ((with_reducible apply lm_sA); (first | exact rfl | assumption); omega)
    | ((with_reducible apply lm_sJ); (first | exact rfl | assumption); omega)
    | ((with_reducible apply lm_sB); (first | exact rfl | assumption); omega)
    | ((with_reducible apply lm_wA); (first | exact rfl | assumption); omega)
    | ((with_reducible apply lm_wJ); (first | exact rfl | assumption); omega)
    | ((with_reducible apply lm_wB); (first | exact rfl | assumption); omega)
    | ((with_reducible apply lm_sAl); (first | exact rfl | assumption); omega)
    | ((with_reducible apply lm_iW); decide))
  refine lm_cI u9 ?_
  simp only [Nat.reduceDiv, Nat.reduceMod]
  rw [e6, lm_uLn hT' (by omega), lm_l2i, lm_msk (by omega), lm_andM (by omega), lm_K1, lm_oo, lm_oo, Nat.add_assoc, ← Nat.succ_mul]
  exact KK
theorem lm_u191 (hC : lm_Cok xs C) (hs : s ≤ 11) (hF : lm_SF m s) (hr : ln_rt m) (hz : ∀ t, t < 32 → lm_b8 (m 195 t) = 0) (hG : lm_Sgd kk xl ml Sg m) (hsp : lm_spl kk xl ≤ 332) (hml : ml ≤ 65536) (hA : ∀ t, t < lm_psz s → lm_b8 (m 37 t) = A t) (hQ : ∀ t, t < 2 * lm_sn s → lm_b8 (m 29 t) = QR t) : ∃ m' n', lm_cal (lm_sc xs) (d + 8) 191 [.ref 194, .ref 29, .ref 42, .ref 37, .ref 38] (lm_w m n x) = some (.ok (some (.int (lm_z (lm_ev (lm_vvR C s QR (fun _ => 0) (lm_plD C s A QR Sg (lm_sgl kk xl ml)) A) (fun t => QR (lm_sn s + t)) (lm_sn s) 0)))), lm_w m' n' x) ∧ (∀ r, (r < 5 ∨ 25 < r) → r ≠ 38 → r ≠ 39 → (r < 195 ∨ 202 < r) → m' r = m r) ∧ lm_fN m n m' n' ∧ m' 38 1 = Int32.ofNat (lm_sn s) ∧ ∀ t, t < lm_sn s → lm_b8 (m' 39 t) = lm_vvR C s QR (fun _ => 0) (lm_plD C s A QR Sg (lm_sgl kk xl ml)) A t := by
  have hpar := lm_spar s hs
  have hpz := lm_psz_b s hs
  have hps : lm_psz s = lm_sn s + lm_fsz s + lm_sd s * lm_lsz s := rfl
  obtain ⟨m1, n1, c1, f1, g1, v1⟩ := lm_u259 (d := d + 1) (x := x) (m := m) (n := n) (q1 := 37) (v1 := 65536) (q := 29) (v := 65536) (a := 0) (QR := QR) (Rb := A) hC hs hF hr hG hsp hml rfl (by decide) (by decide) (by omega) (by decide) (fun t ht => hA t (by omega)) rfl (by decide) (by decide) (by omega) (by decide) (fun t ht => by rw [Nat.zero_add]; exact hQ t ht)
  generalize lm_plD C s A QR Sg (lm_sgl kk xl ml) = D at *
  have SF1 : lm_SF m1 s := by unfold lm_SF; rw [f1 194 (by decide) (by decide) (by decide)]; exact hF
  have e29 : m1 29 = m 29 := f1 29 (by decide) (by decide) (by decide)
  obtain ⟨m2, n2, c2, S2, f2, g2⟩ := lm_u270 (d := d + 1) (x := x) (m := m1) (n := n1) (q := 29) (v := 65536) (a := 0) (P := QR) hC hs SF1 (g1.rt hr) rfl (by decide) (by decide) (by omega) (by decide) (fun t ht => by rw [e29, Nat.zero_add, ← hQ t (by omega), lm_b8b8])
  have fr2 : ∀ r, (r < 5 ∨ 25 < r) → r ≠ 198 → r ≠ 199 → r ≠ 201 → m2 r = m r := fun r q1 q2 q3 q4 => by rw [f2 r (by omega) q3, f1 r q1 q2 q4]
  have Y2 : lm_SY (C, s, QR, (fun t => lm_b8 (m2 196 t)), 0, 0, 0) m2 n2 := ⟨S2, lm_A0z (fun t ht => by rw [fr2 195 (by decide) (by decide) (by decide) (by decide)]; exact hz t ht), fun t _ => rfl⟩
  have D2 : ∀ t, t < lm_fb s + lm_tB s + lm_lb s → lm_b8 (m2 201 t) = D t := fun t ht => by rw [f2 201 (by decide) (by decide)]; exact v1 t ht
  have u261 := lm_u261 (sc := lm_sc xs) (d := d + 5) (n := n2) (x := x) hs S2.1 D2
  have u260 := lm_u260 (sc := lm_sc xs) (d := d + 5) (n := n2) (x := x) hs S2.1 D2
  obtain ⟨m3, c3, f3, S3⟩ := lm_plc (xs := xs) (d := d + 5) (x := x) (k := 0) (T := lm_ctn s D) Y2
  generalize eS : (fun t => lm_b8 (m2 196 t)) = S at *
  have e37 : m3 37 = m 37 := by rw [f3 37 (by decide), fr2 37 (by decide) (by decide) (by decide) (by decide)]
  obtain ⟨m4, n4, c4, S4, f4, g4, v4⟩ := lm_u265 (xs := xs) (d := d) (x := x) (W := lm_WL C s QR S 0 (lm_ctn s D)) (u := Int32.ofNat (lm_clf s D)) (D := D) (A := fun t => A (lm_sn s + t)) (p := 37) (w := 65536) (b := lm_sn s) hC hs S3 (fun t ht => by rw [f3 201 (by decide)]; exact D2 t (Nat.lt_of_lt_of_le ht (Nat.le_trans (Nat.le_add_right _ _) (Nat.le_add_right _ _)))) rfl (by decide) (by decide) (by decide) (by decide) (by decide) (show lm_sn s + lm_fsz s ≤ 65536 by omega) (by decide) (fun t ht => by
    have ht' : t < lm_fsz s := ht
    rw [e37]
    exact hA _ (by omega))
  have Y4 : lm_SY (C, s, QR, S, 0, 0, 0) m4 n4 := S4.y
  have u266 := lm_u266 (sc := lm_sc xs) (d := d + 6) (n := n4) (x := x) Y4.1.1
  have fr4 : ∀ r, (r < 5 ∨ 25 < r) → r ≠ 195 → r ≠ 197 → r ≠ 198 → r ≠ 199 → r ≠ 201 → m4 r = m r := fun r q1 q2 q3 q4 q5 q6 => by rw [f4 r (by omega) q2 q3 q4 q5, f3 r q2, fr2 r q1 q4 q5 q6]
  have fN4 : lm_fN m n m4 n4 := g1.tr (g2.tr (lm_fN.tr (lm_fN.of (f3 11 (by decide)) (f3 17 (by decide))) g4))
  obtain ⟨m5, n5, ⟨i1, i2, i3, i6⟩, k5⟩ := lm_lp (fr := fun k => (58, [(0, .ref 194), (1, .ref 29), (3, .ref 37), (4, .ref 38), (5, .long (Int64.ofNat (lm_tri s (lm_ctn s D) k))), (7, .int (Int32.ofNat (lm_lfi s (lm_ctn s D) (lm_clf s D) k))), (8, .int (Int32.ofNat (lm_sn s + lm_fsz s + k * lm_lsz s))), (9, .int (Int32.ofNat k))], [])) (lm_l191 (P := QR) (S := S) (V0 := lm_hfr (lm_WL C s QR S 0 (lm_ctn s D)) (Int32.ofNat (lm_clf s D)) D (fun t => A (lm_sn s + t))) (A := A) (d := d) (x := x) (m0 := m4) (n0 := n4) hC hs (fun t ht => by rw [fr4 37 (by decide) (by decide) (by decide) (by decide) (by decide) (by decide)]; exact hA t ht) (lm_ctn_lt (D := D) hs) (lm_clf_lt (D := D) hs)) (lm_sd s) 0 (Nat.zero_add _) m4 n4 ⟨Y4, fun _ _ _ _ _ _ _ => rfl, lm_fN.rf, v4⟩
  have i6' : ∀ t, t < lm_sn s → lm_b8 (m5 197 t) = lm_vvR C s QR (fun _ => 0) D A t := fun t ht => by
    rw [i6 t ht, lm_vvR_S (S := fun _ => 0) (S' := S)]
    rfl
  generalize lm_vvR C s QR (fun _ => 0) D A = VV at *
  have u6 := lm_u133 (sc := lm_sc xs) (d := d + 6) (m := m5) (n := n5) (x := x) (o := 38) (q := 39) (p := 197) (k := 32) (c := lm_sn s) rfl rfl rfl rfl (by omega) (by omega)
  generalize eM : lm_u (lm_cp m5 39 0 197 0 (lm_sn s)) 38 1 (Int32.ofNat (lm_sn s)) = M at u6
  have rM : ∀ r, r ≠ 38 → r ≠ 39 → M r = m5 r := fun r h1 h2 => by rw [← eM, lm_u_row h1, lm_cp_row h2]
  have e29' : M 29 = m 29 := by rw [rM 29 (by decide) (by decide), i2 29 (by decide) (by decide) (by decide) (by decide) (by decide) (by decide), fr4 29 (by decide) (by decide) (by decide) (by decide) (by decide) (by decide)]
  have uA := lm_u136 (sc := lm_sc xs) (d := d + 6) (m := M) (n := n5) (x := x) (p := 197) (q := 29) (s := 32) (r := 65536) (a := 0) (b := lm_sn s) (l := lm_sn s) rfl rfl (by omega) (by omega)
  rw [lm_ev_congr (f := fun t => lm_b8 (M 197 (0 + t))) (g := fun t => lm_b8 (M 29 (lm_sn s + t))) (f' := VV) (g' := fun t => QR (lm_sn s + t)) (lm_sn s) 0 (fun t _ ht => ⟨by rw [Nat.zero_add, rM 197 (by decide) (by decide)]; exact i6' t (by omega), by rw [e29']; exact hQ _ (by omega)⟩)] at uA
  refine ⟨M, n5, ?_, fun r q1 q2 q3 q4 => by rw [rM r q2 q3, i2 r (by omega) (by omega) (by omega) (by omega) (by omega) (by omega), fr4 r q1 (by omega) (by omega) (by omega) (by omega) (by omega)], fN4.tr (i3.tr (lm_fN.of (rM 11 (by decide) (by decide)) (rM 17 (by decide) (by decide)))), by rw [← eM, lm_u_eq], fun t ht => ?_⟩
  · have e5 : m5 194 5 = Int32.ofNat (lm_sd s) := i1.1.1.2.2.1
    have e4 : m5 194 4 = Int32.ofNat (lm_sn s) := i1.1.1.2.1
    have e4' : M 194 4 = Int32.ofNat (lm_sn s) := by rw [rM 194 (by decide) (by decide)]; exact e4
    have e43 : m3 194 4 = Int32.ofNat (lm_sn s) := S3.1.1.2.1
    have e44 : m4 194 4 = Int32.ofNat (lm_sn s) := Y4.1.1.2.1
    clear i6 i6' v4 v1 D2 hA hQ hz eM
    rw [Nat.zero_mul, Nat.add_zero] at k5
    refine lm_cal_of (Y := lm_m191) rfl rfl (lm_e191_0 ?_)
    unfold lm_q191_0
    rw [lm_K0]
    repeat (first
    | ((with_reducible apply lm_sI); exact rfl)
    | ((with_reducible apply lm_sR); exact rfl)
    | ((with_reducible apply lm_sS); exact rfl; exact rfl)
    | ((with_reducible apply lm_sL); exact rfl)
    | ((with_reducible apply lm_sP); exact rfl; exact rfl)
    | ((with_reducible apply lm_sPL); exact rfl; exact rfl)
    | ((with_reducible apply lm_sAA); exact rfl; exact rfl)
    | ((with_reducible apply lm_sA); (first | exact rfl | assumption); omega)
    | ((with_reducible apply lm_sJ); (first | exact rfl | assumption); omega)
    | ((with_reducible apply lm_sB); (first | exact rfl | assumption); omega)
    | ((with_reducible apply lm_wA); (first | exact rfl | assumption); omega)
    | ((with_reducible apply lm_wJ); (first | exact rfl | assumption); omega)
    | ((with_reducible apply lm_wB); (first | exact rfl | assumption); omega)
    | ((with_reducible apply lm_sAl); (first | exact rfl | assumption); omega)
    | ((with_reducible apply lm_iW); decide))
    refine lm_cV c1 ?_
    repeat (first
    | ((with_reducible apply lm_sI); exact rfl)
    | ((with_reducible apply lm_sR); exact rfl)
    | ((with_reducible apply lm_sS); exact rfl; exact rfl)
    | ((with_reducible apply lm_sL); exact rfl)
    | ((with_reducible apply lm_sP); exact rfl; exact rfl)
    | ((with_reducible apply lm_sPL); exact rfl; exact rfl)
    | ((with_reducible apply lm_sAA); exact rfl; exact rfl)
    | ((with_reducible apply lm_sA); (first | exact rfl | assumption); omega)
    | ((with_reducible apply lm_sJ); (first | exact rfl | assumption); omega)
    | ((with_reducible apply lm_sB); (first | exact rfl | assumption); omega)
    | ((with_reducible apply lm_wA); (first | exact rfl | assumption); omega)
    | ((with_reducible apply lm_wJ); (first | exact rfl | assumption); omega)
    | ((with_reducible apply lm_wB); (first | exact rfl | assumption); omega)
    | ((with_reducible apply lm_sAl); (first | exact rfl | assumption); omega)
    | ((with_reducible apply lm_iW); decide))
    refine lm_cV c2 ?_
    repeat (first
    | ((with_reducible apply lm_sI); exact rfl)
    | ((with_reducible apply lm_sR); exact rfl)
    | ((with_reducible apply lm_sS); exact rfl; exact rfl)
    | ((with_reducible apply lm_sL); exact rfl)
    | ((with_reducible apply lm_sP); exact rfl; exact rfl)
    | ((with_reducible apply lm_sPL); exact rfl; exact rfl)
    | ((with_reducible apply lm_sAA); exact rfl; exact rfl)
    | ((with_reducible apply lm_sA); (first | exact rfl | assumption); omega)
    | ((with_reducible apply lm_sJ); (first | exact rfl | assumption); omega)
    | ((with_reducible apply lm_sB); (first | exact rfl | assumption); omega)
    | ((with_reducible apply lm_wA); (first | exact rfl | assumption); omega)
    | ((with_reducible apply lm_wJ); (first | exact rfl | assumption); omega)
    | ((with_reducible apply lm_wB); (first | exact rfl | assumption); omega)
    | ((with_reducible apply lm_sAl); (first | exact rfl | assumption); omega)
    | ((with_reducible apply lm_iW); decide))
    refine lm_cLg u261 ?_
    repeat (first
    | ((with_reducible apply lm_sI); exact rfl)
    | ((with_reducible apply lm_sR); exact rfl)
    | ((with_reducible apply lm_sS); exact rfl; exact rfl)
    | ((with_reducible apply lm_sL); exact rfl)
    | ((with_reducible apply lm_sP); exact rfl; exact rfl)
    | ((with_reducible apply lm_sPL); exact rfl; exact rfl)
    | ((with_reducible apply lm_sAA); exact rfl; exact rfl)
    | ((with_reducible apply lm_sA); (first | exact rfl | assumption); omega)
    | ((with_reducible apply lm_sJ); (first | exact rfl | assumption); omega)
    | ((with_reducible apply lm_sB); (first | exact rfl | assumption); omega)
    | ((with_reducible apply lm_wA); (first | exact rfl | assumption); omega)
    | ((with_reducible apply lm_wJ); (first | exact rfl | assumption); omega)
    | ((with_reducible apply lm_wB); (first | exact rfl | assumption); omega)
    | ((with_reducible apply lm_sAl); (first | exact rfl | assumption); omega)
    | ((with_reducible apply lm_iW); decide))
    refine lm_cI u260 ?_
    repeat (first
    | ((with_reducible apply lm_sI); exact rfl)
    | ((with_reducible apply lm_sR); exact rfl)
    | ((with_reducible apply lm_sS); exact rfl; exact rfl)
    | ((with_reducible apply lm_sL); exact rfl)
    | ((with_reducible apply lm_sP); exact rfl; exact rfl)
    | ((with_reducible apply lm_sPL); exact rfl; exact rfl)
    | ((with_reducible apply lm_sAA); exact rfl; exact rfl)
    | ((with_reducible apply lm_sA); (first | exact rfl | assumption); omega)
    | ((with_reducible apply lm_sJ); (first | exact rfl | assumption); omega)
    | ((with_reducible apply lm_sB); (first | exact rfl | assumption); omega)
    | ((with_reducible apply lm_wA); (first | exact rfl | assumption); omega)
    | ((with_reducible apply lm_wJ); (first | exact rfl | assumption); omega)
    | ((with_reducible apply lm_wB); (first | exact rfl | assumption); omega)
    | ((with_reducible apply lm_sAl); (first | exact rfl | assumption); omega)
    | ((with_reducible apply lm_iW); decide))
    refine lm_cV c3 ?_
    repeat (first
    | ((with_reducible apply lm_sI); exact rfl)
    | ((with_reducible apply lm_sR); exact rfl)
    | ((with_reducible apply lm_sS); exact rfl; exact rfl)
    | ((with_reducible apply lm_sL); exact rfl)
    | ((with_reducible apply lm_sP); exact rfl; exact rfl)
    | ((with_reducible apply lm_sPL); exact rfl; exact rfl)
    | ((with_reducible apply lm_sAA); exact rfl; exact rfl)
    | ((with_reducible apply lm_sA); (first | exact rfl | assumption); omega)
    | ((with_reducible apply lm_sJ); (first | exact rfl | assumption); omega)
    | ((with_reducible apply lm_sB); (first | exact rfl | assumption); omega)
    | ((with_reducible apply lm_wA); (first | exact rfl | assumption); omega)
    | ((with_reducible apply lm_wJ); (first | exact rfl | assumption); omega)
    | ((with_reducible apply lm_wB); (first | exact rfl | assumption); omega)
    | ((with_reducible apply lm_sAl); (first | exact rfl | assumption); omega)
    | ((with_reducible apply lm_iW); decide))
    simp only [Nat.reduceDiv, Nat.reduceMod]
    rw [e43]
    refine lm_cV c4 ?_
    repeat (first
    | ((with_reducible apply lm_sI); exact rfl)
    | ((with_reducible apply lm_sR); exact rfl)
    | ((with_reducible apply lm_sS); exact rfl; exact rfl)
    | ((with_reducible apply lm_sL); exact rfl)
    | ((with_reducible apply lm_sP); exact rfl; exact rfl)
    | ((with_reducible apply lm_sPL); exact rfl; exact rfl)
    | ((with_reducible apply lm_sAA); exact rfl; exact rfl)
    | ((with_reducible apply lm_sA); (first | exact rfl | assumption); omega)
    | ((with_reducible apply lm_sJ); (first | exact rfl | assumption); omega)
    | ((with_reducible apply lm_sB); (first | exact rfl | assumption); omega)
    | ((with_reducible apply lm_wA); (first | exact rfl | assumption); omega)
    | ((with_reducible apply lm_wJ); (first | exact rfl | assumption); omega)
    | ((with_reducible apply lm_wB); (first | exact rfl | assumption); omega)
    | ((with_reducible apply lm_sAl); (first | exact rfl | assumption); omega)
    | ((with_reducible apply lm_iW); decide))
    refine lm_cI u266 ?_
    simp only [Nat.reduceDiv, Nat.reduceMod]
    rw [e44, lm_oo]
    refine k5 _ ?_
    refine lm_e191_58 ?_
    unfold lm_q191_58
    rw [lm_K0]
    repeat (first
    | ((with_reducible apply lm_sI); exact rfl)
    | ((with_reducible apply lm_sR); exact rfl)
    | ((with_reducible apply lm_sS); exact rfl; exact rfl)
    | ((with_reducible apply lm_sL); exact rfl)
    | ((with_reducible apply lm_sP); exact rfl; exact rfl)
    | ((with_reducible apply lm_sPL); exact rfl; exact rfl)
    | ((with_reducible apply lm_sAA); exact rfl; exact rfl)
    | ((with_reducible apply lm_sA); (first | exact rfl | assumption); omega)
    | ((with_reducible apply lm_sJ); (first | exact rfl | assumption); omega)
    | ((with_reducible apply lm_sB); (first | exact rfl | assumption); omega)
    | ((with_reducible apply lm_wA); (first | exact rfl | assumption); omega)
    | ((with_reducible apply lm_wJ); (first | exact rfl | assumption); omega)
    | ((with_reducible apply lm_wB); (first | exact rfl | assumption); omega)
    | ((with_reducible apply lm_sAl); (first | exact rfl | assumption); omega)
    | ((with_reducible apply lm_iW); decide))
    simp only [Nat.reduceDiv, Nat.reduceMod]
    rw [e5]
    refine lm_geT (by omega) (by omega) (Nat.le_refl _) ?_
    repeat (first
    | ((with_reducible apply lm_sI); exact rfl)
    | ((with_reducible apply lm_sR); exact rfl)
    | ((with_reducible apply lm_sS); exact rfl; exact rfl)
    | ((with_reducible apply lm_sL); exact rfl)
    | ((with_reducible apply lm_sP); exact rfl; exact rfl)
    | ((with_reducible apply lm_sPL); exact rfl; exact rfl)
    | ((with_reducible apply lm_sAA); exact rfl; exact rfl)
    | ((with_reducible apply lm_sA); (first | exact rfl | assumption); omega)
    | ((with_reducible apply lm_sJ); (first | exact rfl | assumption); omega)
    | ((with_reducible apply lm_sB); (first | exact rfl | assumption); omega)
    | ((with_reducible apply lm_wA); (first | exact rfl | assumption); omega)
    | ((with_reducible apply lm_wJ); (first | exact rfl | assumption); omega)
    | ((with_reducible apply lm_wB); (first | exact rfl | assumption); omega)
    | ((with_reducible apply lm_sAl); (first | exact rfl | assumption); omega)
    | ((with_reducible apply lm_iW); decide))
    simp only [Nat.reduceDiv, Nat.reduceMod]
    rw [e4]
    refine lm_cV u6 ?_
    repeat (first
    | ((with_reducible apply lm_sI); exact rfl)
    | ((with_reducible apply lm_sR); exact rfl)
    | ((with_reducible apply lm_sS); exact rfl; exact rfl)
    | ((with_reducible apply lm_sL); exact rfl)
    | ((with_reducible apply lm_sP); exact rfl; exact rfl)
    | ((with_reducible apply lm_sPL); exact rfl; exact rfl)
    | ((with_reducible apply lm_sAA); exact rfl; exact rfl)
    | ((with_reducible apply lm_sA); (first | exact rfl | assumption); omega)
    | ((with_reducible apply lm_sJ); (first | exact rfl | assumption); omega)
    | ((with_reducible apply lm_sB); (first | exact rfl | assumption); omega)
    | ((with_reducible apply lm_wA); (first | exact rfl | assumption); omega)
    | ((with_reducible apply lm_wJ); (first | exact rfl | assumption); omega)
    | ((with_reducible apply lm_wB); (first | exact rfl | assumption); omega)
    | ((with_reducible apply lm_sAl); (first | exact rfl | assumption); omega)
    | ((with_reducible apply lm_iW); decide))
    simp only [Nat.reduceDiv, Nat.reduceMod]
    rw [e4']
    refine lm_cI uA ?_
    exact lm_iW (lm_z01 _) rfl
  · rw [← eM, lm_u_row (by decide), lm_rc, if_pos (by omega), Nat.sub_zero, Nat.add_zero]
    exact i6' t ht
end LMUG
