/-! ===== SLH of the class: the hash with an address, chains ===== -/
def lm_pre (k n : Nat) : Nat := if k = 12 then n else lm_rate k
def lm_tG (n p z : Nat) (P A X : Nat → Int32) (t : Nat) : Int32 := if t < n then lm_b8 (P t) else if t < p then 0 else if t < p + z then A (t - p) else X (t - p - z)
def lm_kl (s l : Nat) : Nat := if lm_sn s < l then lm_wk s else ln_nk s
def lm_az (s : Nat) : Nat := lm_so' (lm_sk s) + 13
def ln_tH (C : lm_CX) (s : Nat) (P A X : Nat → Int32) (l i : Nat) : Int32 := lm_Hm C (lm_kl s l) (lm_tG (lm_sn s) (lm_pre (lm_kl s l) (lm_sn s)) (lm_az s) P A X) (lm_pre (lm_kl s l) (lm_sn s) + lm_az s + l) i
def lm_pS (C : lm_CX) (k n : Nat) (P : Nat → Int32) : lm_HV := lm_MS C k (fun t => if t < n then lm_b8 (P t) else 0) (lm_pre k n)
theorem lm_pS_e {C : lm_CX} {k n z : Nat} {P A X : Nat → Int32} : lm_MS C k (lm_tG n (lm_pre k n) z P A X) (lm_pre k n) = lm_pS C k n P := lm_MS_ext fun t ht => by
  unfold lm_tG
  by_cases c : t < n
  · rw [if_pos c, if_pos c]
  · rw [if_neg c, if_neg c, if_pos ht]
theorem lm_pS_lt {C : lm_CX} {k n : Nat} {P : Nat → Int32} : (lm_pS C k n P).1 < lm_rate k := lm_MS_lt
theorem lm_kl3 {s l : Nat} : lm_k3 (lm_kl s l) := by
  unfold lm_kl
  by_cases c : lm_sn s < l
  · rw [if_pos c]; exact lm_wk3
  · rw [if_neg c]; exact ln_nk3
theorem lm_obj_c {k : Nat} (hk : lm_k3 k) : (Int32.ofNat (lm_obj k)).toNatClampNeg = lm_obj k ∧ lm_obj k ≤ 17 ∧ 5 ≤ lm_obj k := by
  rcases hk with e | e | e <;> subst e <;> decide
/-- the class's set is chosen, its seed marked -/
def lm_SM (C : lm_CX) (s : Nat) (P : Nat → Int32) (m : lm_MI) (n : lm_ML) : Prop := lm_SF m s ∧ ln_rt m ∧ lm_KPk (ln_nk s) m n (lm_pS C (ln_nk s) (lm_sn s) P) ∧ lm_KPk (lm_wk s) m n (lm_pS C (lm_wk s) (lm_sn s) P)
section LMSR
variable {xs : List Int32} {sc : lm_H} {C : lm_CX} {d s k : Nat} {m m' : lm_MI} {n n' : lm_ML} {x : lm_H × Nat × Nat} {P A X : Nat → Int32}
theorem lm_SM.keep (h : lm_SM C s P m n) (e : m' 194 = m 194) (e1 : ∀ q, 4 < q → q < 23 → m' q = m q) (e2 : ∀ q, 4 < q → q < 23 → n' q = n q) : lm_SM C s P m' n' := by
  obtain ⟨h1, h2, h3, h4⟩ := h
  have b1 := lm_obj_c (ln_nk3 (s := s))
  have b2 := lm_obj_c (lm_wk3 (s := s))
  refine ⟨?_, ⟨?_, ?_⟩, h3.ob ln_nk3 (fun q a b => e1 q (by omega) (by omega)) (fun q a b => e2 q (by omega) (by omega)), h4.ob lm_wk3 (fun q a b => e1 q (by omega) (by omega)) (fun q a b => e2 q (by omega) (by omega))⟩
  · unfold lm_SF
    rw [e]
    exact h1
  · rw [e1 11 (by decide) (by decide)]; exact h2.1
  · rw [e1 17 (by decide) (by decide)]; exact h2.2
theorem lm_k3_ob {k k' : Nat} (h : lm_k3 k) (h' : lm_k3 k') (hn : k ≠ k') : lm_obj k + 5 < lm_obj k' ∨ lm_obj k' + 5 < lm_obj k := by
  rcases h with e | e | e <;> rcases h' with e' | e' | e' <;> subst e <;> subst e' <;> first | exact absurd rfl hn | decide
theorem lm_SM.fa (h : lm_SM C s P m n) (hk : lm_k3 k) (f : lm_fa (lm_obj k) (lm_kso k) m n m' n') : lm_SM C s P m' n' := by
  obtain ⟨h1, h2, h3, h4⟩ := h
  have b0 := lm_obj_c hk
  have kp : ∀ k' g, lm_k3 k' → lm_KPk k' m n g → lm_KPk k' m' n' g := fun k' g hk' K => by
    by_cases c : k = k'
    · subst c; exact K.fa hk f
    · have o := lm_k3_ob hk hk' c
      exact K.ob hk' (fun q a b => f.1 q (by omega)) (fun q a b => f.2.1 q (by omega))
  have kb := lm_k3_b hk
  have fc := f.C kb.1 kb.2
  refine ⟨?_, fc.rt h2, kp _ _ ln_nk3 h3, kp _ _ lm_wk3 h4⟩
  unfold lm_SF
  rw [fc.1 194 (by decide)]
  exact h1
theorem lm_selR {β : Type} {f : Nat → lm_M β} {r : Option (Except Nat β × lm_S)} (hk : lm_k3 k) (K : f 210 (lm_w m n x) = r) : lm_bind (lm_sel [(5, 210), (6, 210), (7, 210)] (some (.ref (lm_obj k)))) f (lm_w m n x) = r := by
  rcases hk with e | e | e <;> subst e <;> exact lm_sS rfl rfl K
theorem lm_selM {β : Type} {f : Nat → lm_M β} {r : Option (Except Nat β × lm_S)} (hk : lm_k3 k) (K : f 209 (lm_w m n x) = r) : lm_bind (lm_sel [(5, 209), (6, 209), (7, 209)] (some (.ref (lm_obj k)))) f (lm_w m n x) = r := by
  rcases hk with e | e | e <;> subst e <;> exact lm_sS rfl rfl K
/-- recall, the address, the bytes, the answer -/
theorem lm_h4 {q v a l p w b : Nat} (hC : lm_Cok xs C) (hk : lm_k3 k) (h : lm_SM C s P m n) (hP : lm_KPk k m n (lm_pS C k (lm_sn s) P)) (hs : s ≤ 11) (hA : ∀ t, t < lm_az s → lm_b8 (m 195 t) = A t) (hq : lm_ar q = some (1, v)) (gq : 22 < q) (hav : a + l ≤ v) (hv : v ≤ 70000) (hX : ∀ t, t < l → lm_b8 (m q (a + t)) = X t) (hp : lm_ar p = some (1, w)) (gp : 22 < p) (hbw : b + lm_sn s ≤ w) (hw : w ≤ 70000) : ∃ m1 n1 m2 n2 m3 n3 m4 n4, lm_cal (lm_sc xs) (d + 4) 210 [.ref (lm_obj k)] (lm_w m n x) = some (.ok none, lm_w m1 n1 x) ∧ lm_cal (lm_sc xs) (d + 4) 140 [.ref (lm_obj k), .ref 195, .int (Int32.ofNat 0), .int (Int32.ofNat (lm_az s))] (lm_w m1 n1 x) = some (.ok none, lm_w m2 n2 x) ∧ lm_cal (lm_sc xs) (d + 4) 140 [.ref (lm_obj k), .ref q, .int (Int32.ofNat a), .int (Int32.ofNat l)] (lm_w m2 n2 x) = some (.ok none, lm_w m3 n3 x) ∧ lm_cal (lm_sc xs) (d + 4) (lm_fy k) [.ref (lm_obj k), .ref p, .int (Int32.ofNat b), .int (Int32.ofNat (lm_sn s))] (lm_w m3 n3 x) = some (.ok none, lm_w m4 n4 x) ∧ m1 194 = m 194 ∧ m2 194 = m 194 ∧ m3 194 = m 194 ∧ (∀ r, (r < 5 ∨ 22 < r) → r ≠ p → m4 r = m r) ∧ lm_fN m n m4 n4 ∧ lm_SM C s P m4 n4 ∧ (∀ i, i < b ∨ b + lm_sn s ≤ i → m4 p i = m p i) ∧ ∀ i, i < lm_sn s → m4 p (b + i) = lm_Hm C k (lm_tG (lm_sn s) (lm_pre k (lm_sn s)) (lm_az s) P A X) (lm_pre k (lm_sn s) + lm_az s + l) i := by
  have hpar := lm_spar s hs
  have hb := lm_k3_b hk
  have ho := lm_so_b (lm_sk s)
  have haz : lm_az s ≤ 32 := ho.1
  have gp' : p ≠ 194 := fun e => by rw [e] at hp; exact absurd (show (none : Option (Nat × Nat)) = some (1, w) from hp) (by intro g; cases g)
  obtain ⟨m1, n1, c1, s1, f1⟩ := lm_rcl (xs := xs) (d := d + 2) (x := x) hk lm_pS_lt hP
  generalize eG : lm_tG (lm_sn s) (lm_pre k (lm_sn s)) (lm_az s) P A X = G
  have ePS : lm_pS C k (lm_sn s) P = lm_MS C k G (lm_pre k (lm_sn s)) := by rw [← eG, lm_pS_e]
  rw [ePS] at s1
  have F1 := f1.C hb.1 hb.2
  obtain ⟨m2, n2, c2, s2, f2⟩ := lm_cadd (d := d) (x := x) hC.1 hb.1 hb.2 (q := 195) (v := 32) (a := 0) (l := lm_az s) (by decide) rfl (by omega) (by decide) lm_MS_lt s1
  rw [ln_hps_sh (G := G) (lm_az s) 0 (lm_pre k (lm_sn s)) _ (fun t ht => by
    rw [Nat.zero_add, F1.1 195 (by decide), hA t ht, ← eG]
    unfold lm_tG
    have c0 : lm_sn s ≤ lm_pre k (lm_sn s) := by
      unfold lm_pre
      rcases hk with e | e | e
      · rw [e, if_neg (by decide)]; exact Nat.le_trans hpar.1 (by decide)
      · rw [e, if_neg (by decide)]; exact Nat.le_trans hpar.1 (by decide)
      · rw [e, if_pos rfl]; exact Nat.le_refl _
    rw [if_neg (by omega), if_neg (by omega), if_pos (by omega), Nat.add_sub_cancel_left]), ← lm_MS_add] at s2
  have F2 := f2.C hb.1 hb.2
  have F12 := F1.tr F2
  obtain ⟨m3, n3, c3, s3, f3⟩ := lm_cadd (d := d) (x := x) hC.1 hb.1 hb.2 (q := q) (v := v) (a := a) (l := l) (by omega) hq hav hv lm_MS_lt s2
  rw [ln_hps_sh (G := G) l a (lm_pre k (lm_sn s) + lm_az s) _ (fun t ht => by
    rw [F12.1 q (by omega), hX t ht, ← eG]
    unfold lm_tG
    have c0 : lm_sn s ≤ lm_pre k (lm_sn s) := by
      unfold lm_pre
      rcases hk with e | e | e
      · rw [e, if_neg (by decide)]; exact Nat.le_trans hpar.1 (by decide)
      · rw [e, if_neg (by decide)]; exact Nat.le_trans hpar.1 (by decide)
      · rw [e, if_pos rfl]; exact Nat.le_refl _
    rw [if_neg (by omega), if_neg (by omega), if_neg (by omega), show lm_pre k (lm_sn s) + lm_az s + t - lm_pre k (lm_sn s) - lm_az s = t by omega]), ← lm_MS_add] at s3
  have F3 := f3.C hb.1 hb.2
  obtain ⟨m4, n4, c4, f4⟩ := lm_cfin (d := d) (x := x) hC.1 hb.1 hb.2 (q := p) (v := w) (a := b) (l := lm_sn s) (by omega) hp hbw hw (fun _ => by omega) lm_MS_lt s3
  have F4 := f4.C hb.1 hb.2
  have FF := F12.tr (F3.tr F4)
  have SM4 : lm_SM C s P m4 n4 := (((h.fa hk f1).fa hk f2).fa hk f3).fa hk f4
  generalize eM : lm_fil m4 p b (b + lm_sn s) (fun i => lm_ou C.1 k (lm_rate k) (lm_hf C.1 k (lm_rate k) (lm_MS C k G (lm_pre k (lm_sn s) + lm_az s + l))).2.2.1 (i - b)) = M at c4
  have rM : ∀ r, r ≠ p → M r = m4 r := fun r hr => by rw [← eM, lm_fl_row hr]
  refine ⟨m1, n1, m2, n2, m3, n3, M, n4, c1, c2, c3, c4, F1.1 194 (by decide), F12.1 194 (by decide), (F12.tr F3).1 194 (by decide), fun r q1 q2 => by rw [rM r q2, FF.1 r q1], ⟨FF.2.1, by rw [rM 11 (by omega)]; exact FF.2.2.1, by rw [rM 17 (by omega)]; exact FF.2.2.2⟩, SM4.keep (rM 194 (fun e => gp' e.symm)) (fun r q1 q2 => rM r (by omega)) (fun _ _ _ => rfl), fun i hi => ?_, fun i hi => ?_⟩
  · rw [← eM, lm_fl_out (by omega), FF.1 p (by omega)]
  · rw [← eM, lm_fl_in (by omega), Nat.add_sub_cancel_left]
    rfl
theorem lm_u264 {q v a l p w b : Nat} (hC : lm_Cok xs C) (h : lm_SM C s P m n) (hs : s ≤ 11) (hA : ∀ t, t < lm_az s → lm_b8 (m 195 t) = A t) (hq : lm_ar q = some (1, v)) (gq : 22 < q) (hav : a + l ≤ v) (hv : v ≤ 70000) (hX : ∀ t, t < l → lm_b8 (m q (a + t)) = X t) (hp : lm_ar p = some (1, w)) (gp : 22 < p) (hbw : b + lm_sn s ≤ w) (hw : w ≤ 70000) : ∃ m' n', lm_cal (lm_sc xs) (d + 5) 264 [.ref 194, .ref q, .int (Int32.ofNat a), .int (Int32.ofNat l), .ref p, .int (Int32.ofNat b)] (lm_w m n x) = some (.ok none, lm_w m' n' x) ∧ (∀ r, (r < 5 ∨ 22 < r) → r ≠ p → m' r = m r) ∧ lm_fN m n m' n' ∧ lm_SM C s P m' n' ∧ (∀ i, i < b ∨ b + lm_sn s ≤ i → m' p i = m p i) ∧ ∀ i, i < lm_sn s → m' p (b + i) = ln_tH C s P A X l i := by
  have hpar := lm_spar s hs
  have hP : lm_KPk (lm_kl s l) m n (lm_pS C (lm_kl s l) (lm_sn s) P) := by
    unfold lm_kl
    by_cases c : lm_sn s < l
    · rw [if_pos c]; exact h.2.2.2
    · rw [if_neg c]; exact h.2.2.1
  have hk := lm_kl3 (s := s) (l := l)
  obtain ⟨m1, n1, m2, n2, m3, n3, m4, n4, c1, c2, c3, c4, e1, e2, e3, f4, g4, S4, o4, v4⟩ := lm_h4 (xs := xs) (d := d) (x := x) hC hk h hP hs hA hq gq hav hv hX hp gp hbw hw
  refine ⟨m4, n4, ?_, f4, g4, S4, o4, fun i hi => by rw [v4 i hi]; rfl⟩
  have hb := lm_k3_b hk
  have oc := lm_obj_c hk
  clear v4 hX hA o4
  have e47 : ∀ w', w' = Int32.ofNat (lm_az s) → lm_rn (lm_sc xs) (d + 4) lm_m264.2.2.2.2.1 (lm_reg lm_m264.2.2.2.2.2) (47, [(0, .ref 194), (1, .ref q), (2, .int (Int32.ofNat a)), (3, .int (Int32.ofNat l)), (4, .ref p), (5, .int (Int32.ofNat b)), (6, .ref (lm_obj (lm_kl s l)))], [.int w', .int (Int32.ofInt 0), .ref 195, .ref (lm_obj (lm_kl s l))]) (lm_w m1 n1 x) = some (.ok none, lm_w m4 n4 x) := by
    intro w' hw'
    subst hw'
    refine lm_e264_47 ?_
    unfold lm_q264_47
    rw [lm_K0]
    refine lm_selA hb.1 hb.2 ?_
    refine lm_cV c2 ?_
    refine lm_selA hb.1 hb.2 ?_
    refine lm_cV c3 ?_
    repeat (first
    | ((with_reducible apply lm_sI); exact rfl)
    | ((with_reducible apply lm_sR); exact rfl)
    | ((with_reducible apply lm_sS); exact rfl; exact rfl)
    | ((with_reducible apply lm_sL); exact rfl)
    | ((with_reducible apply lm_sP); exact rfl; exact rfl)
    | ((with_reducible apply lm_sPL); exact rfl; exact rfl)
    | ((with_reducible apply lm_sAA); exact rfl; exact rfl)
    | ((with_reducible apply lm_sA); (first | exact rfl | assumption); omega)
    | ((with_reducible apply lm_sJ); (first | exact rfl | assumption); omega)
    | ((with_reducible apply lm_sB); (first | exact rfl | assumption); omega)
    | ((with_reducible apply lm_wA); (first | exact rfl | assumption); omega)
    | ((with_reducible apply lm_wJ); (first | exact rfl | assumption); omega)
    | ((with_reducible apply lm_wB); (first | exact rfl | assumption); omega)
    | ((with_reducible apply lm_sAl); (first | exact rfl | assumption); omega)
    | ((with_reducible apply lm_iW); decide))
    simp only [Nat.reduceDiv, Nat.reduceMod]
    rw [e3, h.1.2.1]
    refine lm_selF hb.1 hb.2 ?_
    exact lm_cV c4 rfl
  have e19 : lm_rn (lm_sc xs) (d + 4) lm_m264.2.2.2.2.1 (lm_reg lm_m264.2.2.2.2.2) (19, [(0, .ref 194), (1, .ref q), (2, .int (Int32.ofNat a)), (3, .int (Int32.ofNat l)), (4, .ref p), (5, .int (Int32.ofNat b))], [.ref (lm_obj (lm_kl s l))]) (lm_w m n x) = some (.ok none, lm_w m4 n4 x) := by
    refine lm_e264_19 ?_
    unfold lm_q264_19
    refine lm_selR hk ?_
    refine lm_cV c1 ?_
    repeat (first
    | ((with_reducible apply lm_sI); exact rfl)
    | ((with_reducible apply lm_sR); exact rfl)
    | ((with_reducible apply lm_sS); exact rfl; exact rfl)
    | ((with_reducible apply lm_sL); exact rfl)
    | ((with_reducible apply lm_sP); exact rfl; exact rfl)
    | ((with_reducible apply lm_sPL); exact rfl; exact rfl)
    | ((with_reducible apply lm_sAA); exact rfl; exact rfl)
    | ((with_reducible apply lm_sA); (first | exact rfl | assumption); omega)
    | ((with_reducible apply lm_sJ); (first | exact rfl | assumption); omega)
    | ((with_reducible apply lm_sB); (first | exact rfl | assumption); omega)
    | ((with_reducible apply lm_wA); (first | exact rfl | assumption); omega)
    | ((with_reducible apply lm_wJ); (first | exact rfl | assumption); omega)
    | ((with_reducible apply lm_wB); (first | exact rfl | assumption); omega)
    | ((with_reducible apply lm_sAl); (first | exact rfl | assumption); omega)
    | ((with_reducible apply lm_iW); decide))
    refine lm_sIz rfl ?_
    simp only [Nat.reduceDiv, Nat.reduceMod]
    rw [e1, h.1.1]
    have ea : lm_az s = lm_so' (lm_sk s) + 13 := by unfold lm_az; rfl
    cases esk : lm_sk s with
    | true => exact lm_iF (show ¬ (1 : Int32) = 0 by decide) (e47 _ (by rw [ea, esk]; rfl))
    | false => exact lm_iT (show (0 : Int32) = 0 by decide) (e47 _ (by rw [ea, esk]; rfl))
  refine lm_cal_of (Y := lm_m264) rfl rfl (lm_e264_0 ?_)
  unfold lm_q264_0
  repeat (first
    | ((with_reducible apply lm_sI); exact rfl)
    | ((with_reducible apply lm_sR); exact rfl)
    | ((with_reducible apply lm_sS); exact rfl; exact rfl)
    | ((with_reducible apply lm_sL); exact rfl)
    | ((with_reducible apply lm_sP); exact rfl; exact rfl)
    | ((with_reducible apply lm_sPL); exact rfl; exact rfl)
    | ((with_reducible apply lm_sAA); exact rfl; exact rfl)
    | ((with_reducible apply lm_sA); (first | exact rfl | assumption); omega)
    | ((with_reducible apply lm_sJ); (first | exact rfl | assumption); omega)
    | ((with_reducible apply lm_sB); (first | exact rfl | assumption); omega)
    | ((with_reducible apply lm_wA); (first | exact rfl | assumption); omega)
    | ((with_reducible apply lm_wJ); (first | exact rfl | assumption); omega)
    | ((with_reducible apply lm_wB); (first | exact rfl | assumption); omega)
    | ((with_reducible apply lm_sAl); (first | exact rfl | assumption); omega)
    | ((with_reducible apply lm_iW); decide))
  simp only [Nat.reduceDiv, Nat.reduceMod]
  rw [h.1.2.1]
  unfold lm_kl at e19 oc
  by_cases c : lm_sn s < l
  · rw [if_pos c] at e19 oc
    refine lm_leF (by omega) (by omega) (by omega) ?_
    refine lm_sRh rfl ?_
    simp only [Nat.reduceDiv, Nat.reduceMod]
    rw [h.1.2.2.2.2.2.2.2.2.2.2, oc.1]
    exact e19
  · rw [if_neg c] at e19 oc
    refine lm_leT (by omega) (by omega) (by omega) ?_
    refine lm_sRh rfl ?_
    simp only [Nat.reduceDiv, Nat.reduceMod]
    rw [h.1.2.2.2.2.2.2.2.2.2.1, oc.1]
    exact e19
end LMSR
