/-! ===== the class's Keccak-f ===== -/
def lm_trt (i : Nat) : Int32 := ([Int32.ofNat 0, Int32.ofNat 1, Int32.ofNat 62, Int32.ofNat 28, Int32.ofNat 27, Int32.ofNat 36, Int32.ofNat 44, Int32.ofNat 6, Int32.ofNat 55, Int32.ofNat 20, Int32.ofNat 3, Int32.ofNat 10, Int32.ofNat 43, Int32.ofNat 25, Int32.ofNat 39, Int32.ofNat 41, Int32.ofNat 45, Int32.ofNat 15, Int32.ofNat 21, Int32.ofNat 8, Int32.ofNat 18, Int32.ofNat 2, Int32.ofNat 61, Int32.ofNat 56, Int32.ofNat 14] : List Int32).getD i 0
def lm_clm (S : Nat → Int64) (a : Nat) : Int64 := (((S a ^^^ S (a + 5)) ^^^ S (a + 10)) ^^^ S (a + 15)) ^^^ S (a + 20)
theorem lm_kc5 (S : Nat → Int64) (a : Nat) : lm_kc S a 5 = lm_clm S a := by
  show ((((Int64.ofNat 0 ^^^ S (a + 5 * 0)) ^^^ S (a + 5 * 1)) ^^^ S (a + 5 * 2)) ^^^ S (a + 5 * 3)) ^^^ S (a + 5 * 4) = _
  rw [show Int64.ofNat 0 ^^^ S (a + 5 * 0) = S a by simp]
  rfl
section LMCK
variable {sc : lm_H} {d : Nat} {m : lm_MI} {x : lm_H × Nat × Nat} {n0 : lm_ML} {zs : List Int64} {R : Nat → Int64}
theorem lm_u284 {v : Int64} {k : Int32} {σ : lm_S} (h0 : ¬ k = 0) (h : (-k).toInt64.toUInt64 &&& Int64.toUInt64 63 = (Int32.ofInt 64 - k).toInt64.toUInt64 &&& Int64.toUInt64 63) : lm_cal sc (d + 1) 284 [.long v, .int k] σ = some (.ok (some (.long (lm_lft v k))), σ) := by
  refine lm_cal_of (Y := lm_m284) rfl rfl (lm_e284_0 ?_)
  unfold lm_q284_0 lm_lft lm_uL
  rw [h, if_neg h0]
  exact rfl
theorem lm_j8 {β : Type} {N : lm_ML} {S : Nat → Int64} {a : Nat} {f : Int64 → lm_M β} {r : Option (Except Nat β × lm_S)} (h : N 8 = S) (ha : a < 25) (k : f (S a) (lm_w m N x) = r) : lm_bind (lm_lald sc 8 (Int32.ofNat a)) f (lm_w m N x) = r := by
  subst h
  exact lm_sJ rfl ha k
theorem lm_k8 {β : Type} {N : lm_ML} {S : Nat → Int64} {c j : Nat} {D : Int64} {rr : Int32} {f : lm_M β} {r : Option (Except Nat β × lm_S)} (h : N 8 = S) (hc : c < 25) (hj : j < 25) (h0 : ¬ rr = 0) (hm : (-rr).toInt64.toUInt64 &&& Int64.toUInt64 63 = (Int32.ofInt 64 - rr).toInt64.toUInt64 &&& Int64.toUInt64 63) (k : f (lm_w m (lm_u N 9 j (lm_lft (S c ^^^ D) rr)) x) = r) : lm_bind (lm_lald sc 8 (Int32.ofNat c)) (fun v => lm_bind (lm_asL (lm_cal sc (d + 1) 284 [.long (v ^^^ D), .int rr])) (fun w => lm_bind (lm_last 9 (Int32.ofNat j) w) (fun _ => f))) (lm_w m N x) = r :=
  lm_j8 h hc (lm_cLg (lm_u284 h0 hm) (lm_wJ rfl hj k))
def lm_fkC (n0 n : lm_ML) : Prop := ∀ q, q ≠ 8 → q ≠ 9 → n q = n0 q
theorem lm_fkC.u {n : lm_ML} {q a : Nat} {v : Int64} (h : lm_fkC n0 n) (hq : q = 8 ∨ q = 9) : lm_fkC n0 (lm_u n q a v) := fun p h1 h2 => (lm_u_row (by omega)).trans (h p h1 h2)
def lm_RKC (m : lm_MI) (x : lm_H × Nat × Nat) (n0 : lm_ML) (S : Nat → Int64) (o : Option (Except Nat lm_R × lm_S)) : Prop := ∃ n', o = some (.ok none, lm_w m n' x) ∧ n' 8 = S ∧ lm_fkC n0 n'
def lm_k25 (n : lm_ML) (S : Nat → Int64) : lm_ML := (lm_u (lm_u (lm_u (lm_u (lm_u (lm_u (lm_u (lm_u (lm_u (lm_u (lm_u (lm_u (lm_u (lm_u (lm_u (lm_u (lm_u (lm_u (lm_u (lm_u (lm_u (lm_u (lm_u (lm_u (lm_u n 9 0 (S 0 ^^^ (((((S 4 ^^^ S 9) ^^^ S 14) ^^^ S 19) ^^^ S 24) ^^^ lm_lft ((((S 1 ^^^ S 6) ^^^ S 11) ^^^ S 16) ^^^ S 21) (Int32.ofNat 1)))) 9 1 (lm_lft (S 6 ^^^ (((((S 0 ^^^ S 5) ^^^ S 10) ^^^ S 15) ^^^ S 20) ^^^ lm_lft ((((S 2 ^^^ S 7) ^^^ S 12) ^^^ S 17) ^^^ S 22) (Int32.ofNat 1))) (Int32.ofNat 44))) 9 2 (lm_lft (S 12 ^^^ (((((S 1 ^^^ S 6) ^^^ S 11) ^^^ S 16) ^^^ S 21) ^^^ lm_lft ((((S 3 ^^^ S 8) ^^^ S 13) ^^^ S 18) ^^^ S 23) (Int32.ofNat 1))) (Int32.ofNat 43))) 9 3 (lm_lft (S 18 ^^^ (((((S 2 ^^^ S 7) ^^^ S 12) ^^^ S 17) ^^^ S 22) ^^^ lm_lft ((((S 4 ^^^ S 9) ^^^ S 14) ^^^ S 19) ^^^ S 24) (Int32.ofNat 1))) (Int32.ofNat 21))) 9 4 (lm_lft (S 24 ^^^ (((((S 3 ^^^ S 8) ^^^ S 13) ^^^ S 18) ^^^ S 23) ^^^ lm_lft ((((S 0 ^^^ S 5) ^^^ S 10) ^^^ S 15) ^^^ S 20) (Int32.ofNat 1))) (Int32.ofNat 14))) 9 5 (lm_lft (S 3 ^^^ (((((S 2 ^^^ S 7) ^^^ S 12) ^^^ S 17) ^^^ S 22) ^^^ lm_lft ((((S 4 ^^^ S 9) ^^^ S 14) ^^^ S 19) ^^^ S 24) (Int32.ofNat 1))) (Int32.ofNat 28))) 9 6 (lm_lft (S 9 ^^^ (((((S 3 ^^^ S 8) ^^^ S 13) ^^^ S 18) ^^^ S 23) ^^^ lm_lft ((((S 0 ^^^ S 5) ^^^ S 10) ^^^ S 15) ^^^ S 20) (Int32.ofNat 1))) (Int32.ofNat 20))) 9 7 (lm_lft (S 10 ^^^ (((((S 4 ^^^ S 9) ^^^ S 14) ^^^ S 19) ^^^ S 24) ^^^ lm_lft ((((S 1 ^^^ S 6) ^^^ S 11) ^^^ S 16) ^^^ S 21) (Int32.ofNat 1))) (Int32.ofNat 3))) 9 8 (lm_lft (S 16 ^^^ (((((S 0 ^^^ S 5) ^^^ S 10) ^^^ S 15) ^^^ S 20) ^^^ lm_lft ((((S 2 ^^^ S 7) ^^^ S 12) ^^^ S 17) ^^^ S 22) (Int32.ofNat 1))) (Int32.ofNat 45))) 9 9 (lm_lft (S 22 ^^^ (((((S 1 ^^^ S 6) ^^^ S 11) ^^^ S 16) ^^^ S 21) ^^^ lm_lft ((((S 3 ^^^ S 8) ^^^ S 13) ^^^ S 18) ^^^ S 23) (Int32.ofNat 1))) (Int32.ofNat 61))) 9 10 (lm_lft (S 1 ^^^ (((((S 0 ^^^ S 5) ^^^ S 10) ^^^ S 15) ^^^ S 20) ^^^ lm_lft ((((S 2 ^^^ S 7) ^^^ S 12) ^^^ S 17) ^^^ S 22) (Int32.ofNat 1))) (Int32.ofNat 1))) 9 11 (lm_lft (S 7 ^^^ (((((S 1 ^^^ S 6) ^^^ S 11) ^^^ S 16) ^^^ S 21) ^^^ lm_lft ((((S 3 ^^^ S 8) ^^^ S 13) ^^^ S 18) ^^^ S 23) (Int32.ofNat 1))) (Int32.ofNat 6))) 9 12 (lm_lft (S 13 ^^^ (((((S 2 ^^^ S 7) ^^^ S 12) ^^^ S 17) ^^^ S 22) ^^^ lm_lft ((((S 4 ^^^ S 9) ^^^ S 14) ^^^ S 19) ^^^ S 24) (Int32.ofNat 1))) (Int32.ofNat 25))) 9 13 (lm_lft (S 19 ^^^ (((((S 3 ^^^ S 8) ^^^ S 13) ^^^ S 18) ^^^ S 23) ^^^ lm_lft ((((S 0 ^^^ S 5) ^^^ S 10) ^^^ S 15) ^^^ S 20) (Int32.ofNat 1))) (Int32.ofNat 8))) 9 14 (lm_lft (S 20 ^^^ (((((S 4 ^^^ S 9) ^^^ S 14) ^^^ S 19) ^^^ S 24) ^^^ lm_lft ((((S 1 ^^^ S 6) ^^^ S 11) ^^^ S 16) ^^^ S 21) (Int32.ofNat 1))) (Int32.ofNat 18))) 9 15 (lm_lft (S 4 ^^^ (((((S 3 ^^^ S 8) ^^^ S 13) ^^^ S 18) ^^^ S 23) ^^^ lm_lft ((((S 0 ^^^ S 5) ^^^ S 10) ^^^ S 15) ^^^ S 20) (Int32.ofNat 1))) (Int32.ofNat 27))) 9 16 (lm_lft (S 5 ^^^ (((((S 4 ^^^ S 9) ^^^ S 14) ^^^ S 19) ^^^ S 24) ^^^ lm_lft ((((S 1 ^^^ S 6) ^^^ S 11) ^^^ S 16) ^^^ S 21) (Int32.ofNat 1))) (Int32.ofNat 36))) 9 17 (lm_lft (S 11 ^^^ (((((S 0 ^^^ S 5) ^^^ S 10) ^^^ S 15) ^^^ S 20) ^^^ lm_lft ((((S 2 ^^^ S 7) ^^^ S 12) ^^^ S 17) ^^^ S 22) (Int32.ofNat 1))) (Int32.ofNat 10))) 9 18 (lm_lft (S 17 ^^^ (((((S 1 ^^^ S 6) ^^^ S 11) ^^^ S 16) ^^^ S 21) ^^^ lm_lft ((((S 3 ^^^ S 8) ^^^ S 13) ^^^ S 18) ^^^ S 23) (Int32.ofNat 1))) (Int32.ofNat 15))) 9 19 (lm_lft (S 23 ^^^ (((((S 2 ^^^ S 7) ^^^ S 12) ^^^ S 17) ^^^ S 22) ^^^ lm_lft ((((S 4 ^^^ S 9) ^^^ S 14) ^^^ S 19) ^^^ S 24) (Int32.ofNat 1))) (Int32.ofNat 56))) 9 20 (lm_lft (S 2 ^^^ (((((S 1 ^^^ S 6) ^^^ S 11) ^^^ S 16) ^^^ S 21) ^^^ lm_lft ((((S 3 ^^^ S 8) ^^^ S 13) ^^^ S 18) ^^^ S 23) (Int32.ofNat 1))) (Int32.ofNat 62))) 9 21 (lm_lft (S 8 ^^^ (((((S 2 ^^^ S 7) ^^^ S 12) ^^^ S 17) ^^^ S 22) ^^^ lm_lft ((((S 4 ^^^ S 9) ^^^ S 14) ^^^ S 19) ^^^ S 24) (Int32.ofNat 1))) (Int32.ofNat 55))) 9 22 (lm_lft (S 14 ^^^ (((((S 3 ^^^ S 8) ^^^ S 13) ^^^ S 18) ^^^ S 23) ^^^ lm_lft ((((S 0 ^^^ S 5) ^^^ S 10) ^^^ S 15) ^^^ S 20) (Int32.ofNat 1))) (Int32.ofNat 39))) 9 23 (lm_lft (S 15 ^^^ (((((S 4 ^^^ S 9) ^^^ S 14) ^^^ S 19) ^^^ S 24) ^^^ lm_lft ((((S 1 ^^^ S 6) ^^^ S 11) ^^^ S 16) ^^^ S 21) (Int32.ofNat 1))) (Int32.ofNat 41))) 9 24 (lm_lft (S 21 ^^^ (((((S 0 ^^^ S 5) ^^^ S 10) ^^^ S 15) ^^^ S 20) ^^^ lm_lft ((((S 2 ^^^ S 7) ^^^ S 12) ^^^ S 17) ^^^ S 22) (Int32.ofNat 1))) (Int32.ofNat 2)))
theorem lm_k25_9 {n : lm_ML} {S : Nat → Int64} : ∀ j, j < 25 → lm_k25 n S 9 j = lm_kP lm_trt S j := by
  intro j hj
  unfold lm_kP lm_kT lm_k25
  rw [lm_kc5, lm_kc5]
  simp only [lm_rd, true_and]
  match j, hj with
  | 0, _ => rfl
  | 1, _ => rfl
  | 2, _ => rfl
  | 3, _ => rfl
  | 4, _ => rfl
  | 5, _ => rfl
  | 6, _ => rfl
  | 7, _ => rfl
  | 8, _ => rfl
  | 9, _ => rfl
  | 10, _ => rfl
  | 11, _ => rfl
  | 12, _ => rfl
  | 13, _ => rfl
  | 14, _ => rfl
  | 15, _ => rfl
  | 16, _ => rfl
  | 17, _ => rfl
  | 18, _ => rfl
  | 19, _ => rfl
  | 20, _ => rfl
  | 21, _ => rfl
  | 22, _ => rfl
  | 23, _ => rfl
  | 24, _ => rfl
  | j + 25, h => exact absurd h (by omega)
theorem lm_k25_8 {n : lm_ML} {S : Nat → Int64} (h : n 8 = S) : lm_k25 n S 8 = S := by
  unfold lm_k25
  repeat rw [lm_u_row (by decide)]
  exact h
theorem lm_k25_f {n : lm_ML} {S : Nat → Int64} (hf : lm_fkC n0 n) : lm_fkC n0 (lm_k25 n S) := by
  unfold lm_k25
  exact (((((((((((((((((((((((((hf.u (Or.inr rfl)).u (Or.inr rfl)).u (Or.inr rfl)).u (Or.inr rfl)).u (Or.inr rfl)).u (Or.inr rfl)).u (Or.inr rfl)).u (Or.inr rfl)).u (Or.inr rfl)).u (Or.inr rfl)).u (Or.inr rfl)).u (Or.inr rfl)).u (Or.inr rfl)).u (Or.inr rfl)).u (Or.inr rfl)).u (Or.inr rfl)).u (Or.inr rfl)).u (Or.inr rfl)).u (Or.inr rfl)).u (Or.inr rfl)).u (Or.inr rfl)).u (Or.inr rfl)).u (Or.inr rfl)).u (Or.inr rfl)).u (Or.inr rfl))
theorem lm_l212p {n : lm_ML} {t : Nat} {S : Nat → Int64} (ht : t < 24) (eS : n 8 = S) {r : Except Nat lm_R × lm_S} (K : lm_rn sc (d + 1) lm_m212.2.2.2.2.1 (lm_reg lm_m212.2.2.2.2.2) (580, [(1, .ref 8), (2, .ref 9), (3, .int (Int32.ofNat t)), (24, .int (Int32.ofNat 0))], []) (lm_w m (lm_k25 n S) x) = some r) : lm_rn sc (d + 1) lm_m212.2.2.2.2.1 (lm_reg lm_m212.2.2.2.2.2) (12, [(1, .ref 8), (2, .ref 9), (3, .int (Int32.ofNat t))], []) (lm_w m n x) = some r := by
  refine lm_e212_12 ?_
  unfold lm_q212_12
  simp only [lm_K0, lm_K1, lm_K2, lm_K3, lm_K4, lm_K5, lm_K6, lm_K7, lm_K8, lm_K9, lm_K10, lm_K11, lm_K12, lm_K13, lm_K14, lm_K15, lm_K16, lm_K17, lm_K18, lm_K19, lm_K20, lm_K21, lm_K22, lm_K23, lm_K24, lm_K25, lm_K27, lm_K28, lm_K36, lm_K39, lm_K41, lm_K43, lm_K44, lm_K45, lm_K55, lm_K56, lm_K61, lm_K62]
  refine lm_geF (by omega) (by omega) (by omega) ?_
  iterate 25 (refine lm_j8 eS (by decide) ?_)
  iterate 5 (refine lm_cLg (lm_u284 (by decide) (by decide)) ?_)
  refine lm_j8 eS (by decide) (lm_wJ rfl (by decide) ?_)
  iterate 24 (refine lm_k8 (by first | exact eS | ((repeat rw [lm_u_row (by decide)]); exact eS)) (by decide) (by decide) (by decide) (by decide) ?_)
  exact K
theorem lm_kXr {o : Nat → Int64} {A b : Nat} (hb : b < 5) : lm_kX o (5 * A + b) = o (5 * A + b) ^^^ ((o (5 * A + (b + 1) % 5) ^^^ (Int64.ofNat 18446744073709551615)) &&& o (5 * A + (b + 2) % 5)) := by
  unfold lm_kX
  rw [show (5 * A + b) % 5 = b by omega, show (5 * A + b) / 5 = A by omega, Nat.add_comm ((b + 1) % 5), Nat.add_comm ((b + 2) % 5)]
theorem lm_l212x {t : Nat} {o s : Nat → Int64} (hs : sc[6]? = some (.inr (.inl zs))) (hz : zs.length = 24) (ht : t < 24)
    (K : ∀ n, n 8 = (fun i => if i < 25 then (if i = 0 then lm_kX o i ^^^ zs.getD t 0 else lm_kX o i) else s i) → lm_fkC n0 n → lm_RKC m x n0 R (lm_rn sc (d + 1) lm_m212.2.2.2.2.1 (lm_reg lm_m212.2.2.2.2.2) (12, [(1, .ref 8), (2, .ref 9), (3, .int (Int32.ofNat (t + 1)))], []) (lm_w m n x))) :
    ∀ k A, A + k = 5 → ∀ n, (∀ i, i < 25 → n 9 i = o i) → (∀ i, i < 5 * A → n 8 i = lm_kX o i) → (∀ i, 25 ≤ i → n 8 i = s i) → lm_fkC n0 n → lm_RKC m x n0 R (lm_rn sc (d + 1) lm_m212.2.2.2.2.1 (lm_reg lm_m212.2.2.2.2.2) (580, [(1, .ref 8), (2, .ref 9), (3, .int (Int32.ofNat t)), (24, .int (Int32.ofNat (5 * A)))], []) (lm_w m n x)) := by
  intro k
  induction k with
  | zero =>
    intro A hA n h1 h2 h3 h4
    have hA : A = 5 := hA
    subst hA
    obtain ⟨n', e, f1, f2⟩ := K (lm_u n 8 0 (n 8 0 ^^^ zs.getD t 0)) (by
      funext i
      by_cases c : i = 0
      · subst c
        rw [lm_u_eq, if_pos (by decide), if_pos rfl, h2 0 (by decide)]
      · rw [lm_u_ne (fun g => c g.2), if_neg c]
        by_cases c2 : i < 25
        · rw [if_pos c2]; exact h2 i c2
        · rw [if_neg c2]; exact h3 i (by omega)) (h4.u (Or.inl rfl))
    refine ⟨n', ?_, f1, f2⟩
    refine lm_e212_580 ?_
    unfold lm_q212_580
    simp only [lm_K25, lm_K0]
    refine lm_geT (by decide) (by decide) (by decide) ?_
    repeat (first
    | ((with_reducible apply lm_sI); exact rfl)
    | ((with_reducible apply lm_sR); exact rfl)
    | ((with_reducible apply lm_sS); exact rfl; exact rfl)
    | ((with_reducible apply lm_sL); exact rfl)
    | ((with_reducible apply lm_sP); exact rfl; exact rfl)
    | ((with_reducible apply lm_sPL); exact rfl; exact rfl)
    | ((with_reducible apply lm_sAA); exact rfl; first | exact rfl | exact lm_roO (by omega) | exact lm_roM (by omega))
    | ((with_reducible apply lm_sI); exact lm_fpL (by omega))
    | ((with_reducible apply lm_sR); exact lm_fpB (by omega))
    | ((with_reducible apply lm_sP); exact lm_fpL (by omega); exact rfl)
    | ((with_reducible apply lm_sS); exact lm_ocO (by omega); exact rfl)
    | ((with_reducible apply lm_sA); exact rfl; omega)
    | ((with_reducible apply lm_sJ); exact rfl; omega)
    | ((with_reducible apply lm_sB); (first | exact rfl | exact lm_arB (by omega) | exact lm_arM (by omega)); omega)
    | ((with_reducible apply lm_wA); exact rfl; omega)
    | ((with_reducible apply lm_wJ); exact rfl; omega)
    | ((with_reducible apply lm_wB); (first | exact rfl | exact lm_arB (by omega) | exact lm_arM (by omega)); omega)
    | ((with_reducible apply lm_sAl); (first | exact rfl | exact lm_arB (by omega) | exact lm_arM (by omega)); omega)
    | ((with_reducible apply lm_iW); decide))
    refine lm_sStL hs (by omega) (by omega) ?_
    repeat (first
    | ((with_reducible apply lm_sI); exact rfl)
    | ((with_reducible apply lm_sR); exact rfl)
    | ((with_reducible apply lm_sS); exact rfl; exact rfl)
    | ((with_reducible apply lm_sL); exact rfl)
    | ((with_reducible apply lm_sP); exact rfl; exact rfl)
    | ((with_reducible apply lm_sPL); exact rfl; exact rfl)
    | ((with_reducible apply lm_sAA); exact rfl; first | exact rfl | exact lm_roO (by omega) | exact lm_roM (by omega))
    | ((with_reducible apply lm_sI); exact lm_fpL (by omega))
    | ((with_reducible apply lm_sR); exact lm_fpB (by omega))
    | ((with_reducible apply lm_sP); exact lm_fpL (by omega); exact rfl)
    | ((with_reducible apply lm_sS); exact lm_ocO (by omega); exact rfl)
    | ((with_reducible apply lm_sA); exact rfl; omega)
    | ((with_reducible apply lm_sJ); exact rfl; omega)
    | ((with_reducible apply lm_sB); (first | exact rfl | exact lm_arB (by omega) | exact lm_arM (by omega)); omega)
    | ((with_reducible apply lm_wA); exact rfl; omega)
    | ((with_reducible apply lm_wJ); exact rfl; omega)
    | ((with_reducible apply lm_wB); (first | exact rfl | exact lm_arB (by omega) | exact lm_arM (by omega)); omega)
    | ((with_reducible apply lm_sAl); (first | exact rfl | exact lm_arB (by omega) | exact lm_arM (by omega)); omega)
    | ((with_reducible apply lm_iW); decide))
    rw [show Int32.ofNat t + Int32.ofInt 1 = Int32.ofNat (t + 1) from lm_oa t 1]
    exact e
  | succ k ih =>
    intro A hA n h1 h2 h3 h4
    have e0 := h1 (5 * A + 0) (by omega)
    have e1 := h1 (5 * A + 1) (by omega)
    have e2 := h1 (5 * A + 2) (by omega)
    have e3 := h1 (5 * A + 3) (by omega)
    have e4 := h1 (5 * A + 4) (by omega)
    obtain ⟨n', e, f1, f2⟩ := ih (A + 1) (by omega) (lm_u (lm_u (lm_u (lm_u (lm_u n 8 (5 * A + 0) (lm_kX o (5 * A + 0))) 8 (5 * A + 1) (lm_kX o (5 * A + 1))) 8 (5 * A + 2) (lm_kX o (5 * A + 2))) 8 (5 * A + 3) (lm_kX o (5 * A + 3))) 8 (5 * A + 4) (lm_kX o (5 * A + 4)))
      (fun i hi => by
        rw [lm_u_row (by decide), lm_u_row (by decide), lm_u_row (by decide), lm_u_row (by decide), lm_u_row (by decide)]
        exact h1 i hi)
      (fun i hi => by
        by_cases c4 : i = 5 * A + 4
        · rw [c4, lm_u_eq]
        rw [lm_u_ne (fun g => c4 g.2)]
        by_cases c3 : i = 5 * A + 3
        · rw [c3, lm_u_eq]
        rw [lm_u_ne (fun g => c3 g.2)]
        by_cases c2 : i = 5 * A + 2
        · rw [c2, lm_u_eq]
        rw [lm_u_ne (fun g => c2 g.2)]
        by_cases c1 : i = 5 * A + 1
        · rw [c1, lm_u_eq]
        rw [lm_u_ne (fun g => c1 g.2)]
        by_cases c0 : i = 5 * A + 0
        · rw [c0, lm_u_eq]
        rw [lm_u_ne (fun g => c0 g.2)]
        exact h2 i (by omega))
      (fun i hi => by
        rw [lm_u_ne (by omega), lm_u_ne (by omega), lm_u_ne (by omega), lm_u_ne (by omega), lm_u_ne (by omega)]
        exact h3 i hi)
      (((((h4.u (Or.inl rfl)).u (Or.inl rfl)).u (Or.inl rfl)).u (Or.inl rfl)).u (Or.inl rfl))
    refine ⟨n', ?_, f1, f2⟩
    refine lm_e212_580 ?_
    unfold lm_q212_580
    rw [lm_K25]
    refine lm_geF (by omega) (by omega) (by omega) ?_
    rw [show Int32.ofNat (5 * A) + Int32.ofInt 1 = Int32.ofNat (5 * A + 1) from lm_oa _ 1, show Int32.ofNat (5 * A) + Int32.ofInt 2 = Int32.ofNat (5 * A + 2) from lm_oa _ 2, show Int32.ofNat (5 * A) + Int32.ofInt 3 = Int32.ofNat (5 * A + 3) from lm_oa _ 3, show Int32.ofNat (5 * A) + Int32.ofInt 4 = Int32.ofNat (5 * A + 4) from lm_oa _ 4]
    repeat (first
    | ((with_reducible apply lm_sI); exact rfl)
    | ((with_reducible apply lm_sR); exact rfl)
    | ((with_reducible apply lm_sS); exact rfl; exact rfl)
    | ((with_reducible apply lm_sL); exact rfl)
    | ((with_reducible apply lm_sP); exact rfl; exact rfl)
    | ((with_reducible apply lm_sPL); exact rfl; exact rfl)
    | ((with_reducible apply lm_sAA); exact rfl; first | exact rfl | exact lm_roO (by omega) | exact lm_roM (by omega))
    | ((with_reducible apply lm_sI); exact lm_fpL (by omega))
    | ((with_reducible apply lm_sR); exact lm_fpB (by omega))
    | ((with_reducible apply lm_sP); exact lm_fpL (by omega); exact rfl)
    | ((with_reducible apply lm_sS); exact lm_ocO (by omega); exact rfl)
    | ((with_reducible apply lm_sA); exact rfl; omega)
    | ((with_reducible apply lm_sJ); exact rfl; omega)
    | ((with_reducible apply lm_sB); (first | exact rfl | exact lm_arB (by omega) | exact lm_arM (by omega)); omega)
    | ((with_reducible apply lm_wA); exact rfl; omega)
    | ((with_reducible apply lm_wJ); exact rfl; omega)
    | ((with_reducible apply lm_wB); (first | exact rfl | exact lm_arB (by omega) | exact lm_arM (by omega)); omega)
    | ((with_reducible apply lm_sAl); (first | exact rfl | exact lm_arB (by omega) | exact lm_arM (by omega)); omega)
    | ((with_reducible apply lm_iW); decide))
    rw [show Int32.ofNat (5 * A) + Int32.ofInt 5 = Int32.ofNat (5 * (A + 1)) from lm_oa _ 5, show n 9 (5 * A) = o (5 * A + 0) from e0, e1, e2, e3, e4]
    rw [lm_kXr (b := 0) (by decide), lm_kXr (b := 1) (by decide), lm_kXr (b := 2) (by decide), lm_kXr (b := 3) (by decide), lm_kXr (b := 4) (by decide)] at e
    exact e
theorem lm_l212r (hs : sc[6]? = some (.inr (.inl zs))) (hz : zs.length = 24) : ∀ k t (n : lm_ML) (S : Nat → Int64), t + k = 24 → n 8 = S → lm_fkC n0 n → lm_RKC m x n0 (lm_kF lm_trt (fun t => zs.getD t 0) k t S) (lm_rn sc (d + 1) lm_m212.2.2.2.2.1 (lm_reg lm_m212.2.2.2.2.2) (12, [(1, .ref 8), (2, .ref 9), (3, .int (Int32.ofNat t))], []) (lm_w m n x)) := by
  intro k
  induction k with
  | zero =>
    intro t n S ht hS hf
    have ht : t = 24 := ht
    subst ht
    refine ⟨n, ?_, hS, hf⟩
    refine lm_e212_12 ?_
    unfold lm_q212_12
    rw [lm_K24]
    exact lm_geT (by decide) (by decide) (by decide) rfl
  | succ k ih =>
    intro t n S ht hS hf
    obtain ⟨n', e, f1, f2⟩ := lm_l212x (sc := sc) (d := d) (m := m) (x := x) (n0 := n0) (R := lm_kF lm_trt (fun t => zs.getD t 0) (k + 1) t S) (o := lm_kP lm_trt S) (s := S) hs hz (show t < 24 by omega) (fun n g1 g2 => ih (t + 1) n _ (by omega) g1 g2) 5 0 rfl (lm_k25 n S) lm_k25_9 (fun i hi => by omega) (fun i _ => by rw [lm_k25_8 hS]) (lm_k25_f hf)
    exact ⟨n', lm_l212p (by omega) hS e, f1, f2⟩
theorem lm_u212 {n : lm_ML} (hs : sc[6]? = some (.inr (.inl zs))) (hz : zs.length = 24) : lm_RKC m x n (lm_kF lm_trt (fun t => zs.getD t 0) 24 0 (n 8)) (lm_cal sc (d + 2) 212 [.ref 5] (lm_w m n x)) := by
  obtain ⟨n', e, f1, f2⟩ := lm_l212r (sc := sc) (d := d) (m := m) (x := x) (n0 := n) hs hz 24 0 n (n 8) rfl rfl (fun _ _ _ => rfl)
  refine ⟨n', ?_, f1, f2⟩
  refine lm_cal_of (Y := lm_m212) rfl rfl (lm_e212_0 ?_)
  unfold lm_q212_0
  repeat (first
    | ((with_reducible apply lm_sI); exact rfl)
    | ((with_reducible apply lm_sR); exact rfl)
    | ((with_reducible apply lm_sS); exact rfl; exact rfl)
    | ((with_reducible apply lm_sL); exact rfl)
    | ((with_reducible apply lm_sP); exact rfl; exact rfl)
    | ((with_reducible apply lm_sPL); exact rfl; exact rfl)
    | ((with_reducible apply lm_sAA); exact rfl; first | exact rfl | exact lm_roO (by omega) | exact lm_roM (by omega))
    | ((with_reducible apply lm_sI); exact lm_fpL (by omega))
    | ((with_reducible apply lm_sR); exact lm_fpB (by omega))
    | ((with_reducible apply lm_sP); exact lm_fpL (by omega); exact rfl)
    | ((with_reducible apply lm_sS); exact lm_ocO (by omega); exact rfl)
    | ((with_reducible apply lm_sA); exact rfl; omega)
    | ((with_reducible apply lm_sJ); exact rfl; omega)
    | ((with_reducible apply lm_sB); (first | exact rfl | exact lm_arB (by omega) | exact lm_arM (by omega)); omega)
    | ((with_reducible apply lm_wA); exact rfl; omega)
    | ((with_reducible apply lm_wJ); exact rfl; omega)
    | ((with_reducible apply lm_wB); (first | exact rfl | exact lm_arB (by omega) | exact lm_arM (by omega)); omega)
    | ((with_reducible apply lm_sAl); (first | exact rfl | exact lm_arB (by omega) | exact lm_arM (by omega)); omega)
    | ((with_reducible apply lm_iW); decide))
  exact e
end LMCK
