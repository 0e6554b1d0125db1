/-! ===== ONE INSTRUCTION: from the frame behind it to the frame ahead of it ===== -/
theorem lm_getD_set {α : Type} {xs : List α} {i : Nat} {x d : α} (h : i < xs.length) (j : Nat) : (xs.set i x).getD j d = if j = i then x else xs.getD j d := by
  rw [List.getD_eq_getElem?_getD, List.getD_eq_getElem?_getD, List.getElem?_set]
  by_cases e : j = i
  · subst e
    simp [h]
  · rw [if_neg e, if_neg (fun q => e q.symm)]
theorem lm_fits_nar (x : Int32) : fits .byte (.int (vp_nar .byte x)) = true := by
  rw [vp_nar_byte]
  have h1 := Int8.toInt_lt x.toInt8
  have h2 := Int8.le_toInt x.toInt8
  show (decide (-128 ≤ x.toInt8.toInt32) && decide (x.toInt8.toInt32 ≤ 127)) = true
  have e : x.toInt8.toInt32.toInt = x.toInt8.toInt := Int8.toInt_toInt32 _
  simp only [Bool.and_eq_true, decide_eq_true_eq, Int32.le_iff_toInt_le, e]
  have a1 : (-128 : Int32).toInt = -128 := by decide
  have a2 : (127 : Int32).toInt = 127 := by decide
  rw [a1, a2]
  omega
theorem lm_okC_int {xs : List Int32} {u : Nat} (h : u ≠ 1) : lm_okC (.inl (u, xs)) := fun ys e => by
  cases e
  exact absurd rfl h
theorem lm_okC_other {c : lm_C} (h : ∀ u xs, c ≠ .inl (u, xs)) : lm_okC c := fun ys e => absurd e (h 1 ys)
theorem lm_mem_set {α : Type} {xs : List α} {i : Nat} {x y : α} (h : y ∈ xs.set i x) : y = x ∨ y ∈ xs := by
  rcases List.mem_or_eq_of_mem_set h with h | h
  · exact Or.inr h
  · exact Or.inl h
section LMI
variable {p : Program} {l : Launch} {e : Env} {R : Room} {s : State} {m : MethodId} {args : Array Value} {below : List Frame} {meth : Method} {c : Code} {D : va_G} {cl : List vw_C} {tc : Nat → ClassId} {ad : Nat → Nat} {sc : lm_H} {b nL : Nat} {Q : State → Prop} {cc : ByteArray} {pc : Nat} {lv : lm_L} {st : List Value} {σ σ' : lm_S}
theorem ls_iald (hx : p.tables.exec = Jvm.exec) (hb : c.code = cc) (hG : lm_G D cl tc ad sc b s) {q : Nat} {i : Int32} {v : Int32} (h : lm_iald sc q i σ = some (.ok v, σ')) (hd : decode cc pc = .ok (.iaload, 1)) (k : lm_Sim p l e R s m args below meth c D cl tc ad b nL Q (pc + 1) (lv) (.int v :: st) σ') : lm_Sim p l e R s m args below meth c D cl tc ad b nL Q (pc) (lv) (.int i :: .ref q :: st) σ := by
  unfold lm_iald at h
  split at h
  · rename_i u xs hcell
    split at h
    · rename_i hin
      cases h
      obtain ⟨rfl, h1, h2⟩ := hin
      intro ls H locs cells slots hl hQ hc hs
      obtain ⟨cell, c1, c2, c3, -, c5, c6⟩ := lm_rdI hG hQ (Or.inl ⟨rfl, rfl⟩) hcell
      exact W.iald hx hb c1 c2 c3 (fun z => z.elim h1 (Nat.not_le.mpr (Nat.lt_of_lt_of_le h2 c5.1))) (c6 _ h2) rfl rfl hd (k ls H locs cells slots hl hQ hc hs)
    · cases h
  · cases h
theorem ls_lald (hx : p.tables.exec = Jvm.exec) (hb : c.code = cc) (hG : lm_G D cl tc ad sc b s) {q : Nat} {i : Int32} {v : Int64} (h : lm_lald sc q i σ = some (.ok v, σ')) (hd : decode cc pc = .ok (.laload, 1)) (k : lm_Sim p l e R s m args below meth c D cl tc ad b nL Q (pc + 1) (lv) (.long v :: st) σ') : lm_Sim p l e R s m args below meth c D cl tc ad b nL Q (pc) (lv) (.int i :: .ref q :: st) σ := by
  unfold lm_lald at h
  split at h
  · rename_i xs hcell
    split at h
    · rename_i hin
      cases h
      obtain ⟨h1, h2⟩ := hin
      intro ls H locs cells slots hl hQ hc hs
      obtain ⟨cell, c1, c2, c3, -, c5, c6⟩ := lm_rdL hG hQ hcell
      exact W.lald hx hb c1 c2 c3 (fun z => z.elim h1 (Nat.not_le.mpr (Nat.lt_of_lt_of_le h2 c5.1))) (c6 _ h2) rfl rfl hd (k ls H locs cells slots hl hQ hc hs)
    · cases h
  · cases h
theorem ls_bald (hx : p.tables.exec = Jvm.exec) (hb : c.code = cc) (hG : lm_G D cl tc ad sc b s) {q : Nat} {i : Int32} {v : Int32} (h : lm_bald sc q i σ = some (.ok v, σ')) (hd : decode cc pc = .ok (.baload, 1)) (k : lm_Sim p l e R s m args below meth c D cl tc ad b nL Q (pc + 1) (lv) (.int v :: st) σ') : lm_Sim p l e R s m args below meth c D cl tc ad b nL Q (pc) (lv) (.int i :: .ref q :: st) σ := by
  unfold lm_bald at h
  split at h
  · rename_i u xs hcell
    split at h
    · rename_i hin
      cases h
      obtain ⟨hu, h1, h2⟩ := hin
      intro ls H locs cells slots hl hQ hc hs
      rcases hu with rfl | rfl
      · obtain ⟨cell, c1, c2, c3, -, c5, c6⟩ := lm_rdI hG hQ (Or.inr (Or.inl ⟨rfl, rfl⟩)) hcell
        exact W.bald hx hb c1 c2 c3 (fun z => z.elim h1 (Nat.not_le.mpr (Nat.lt_of_lt_of_le h2 c5.1))) (c6 _ h2) rfl rfl hd (k ls H locs cells slots hl hQ hc hs)
      · obtain ⟨cell, c1, c2, c3, -, c5, c6⟩ := lm_rdI hG hQ (Or.inr (Or.inr ⟨rfl, rfl⟩)) hcell
        exact W.zald hx hb c1 c2 c3 (fun z => z.elim h1 (Nat.not_le.mpr (Nat.lt_of_lt_of_le h2 c5.1))) (c6 _ h2) rfl rfl hd (k ls H locs cells slots hl hQ hc hs)
    · cases h
  · cases h
theorem ls_aald (hx : p.tables.exec = Jvm.exec) (hb : c.code = cc) (hG : lm_G D cl tc ad sc b s) {q : Nat} {i : Int32} {v : Option Nat} (h : lm_aald sc q i σ = some (.ok v, σ')) (hd : decode cc pc = .ok (.aaload, 1)) (k : lm_Sim p l e R s m args below meth c D cl tc ad b nL Q (pc + 1) (lv) (lm_ref v :: st) σ') : lm_Sim p l e R s m args below meth c D cl tc ad b nL Q (pc) (lv) (.int i :: .ref q :: st) σ := by
  unfold lm_aald at h
  split at h
  · rename_i u xs hcell
    split at h
    · rename_i hin
      cases h
      obtain ⟨hu, h1, h2⟩ := hin
      intro ls H locs cells slots hl hQ hc hs
      obtain ⟨ty, hr, cell, c1, c2, c3, -, c5, c6⟩ := lm_rdR hG hQ hu hcell
      have ev : lm_v ad (lm_ref (xs.getD i.toNatClampNeg none)) = va_rf ((xs.getD i.toNatClampNeg none).map ad) := by
        cases xs.getD i.toNatClampNeg none <;> rfl
      have k9 := k ls H locs cells slots hl hQ hc hs
      rw [List.map_cons, ev] at k9
      exact W.aald (v := va_rf ((xs.getD i.toNatClampNeg none).map ad)) (ty := ty) hx hb c1 c2 hr c3 (fun z => z.elim h1 (Nat.not_le.mpr (Nat.lt_of_lt_of_le h2 c5.1))) (c6 _ h2) rfl rfl hd k9
    · cases h
  · cases h
theorem ls_alen (hx : p.tables.exec = Jvm.exec) (hb : c.code = cc) (hG : lm_G D cl tc ad sc b s) {q : Nat} {v : Int32} (h : lm_alen sc q σ = some (.ok v, σ')) (hd : decode cc pc = .ok (.arraylength, 1)) (k : lm_Sim p l e R s m args below meth c D cl tc ad b nL Q (pc + 1) (lv) (.int v :: st) σ') : lm_Sim p l e R s m args below meth c D cl tc ad b nL Q (pc) (lv) (.ref q :: st) σ := by
  unfold lm_alen at h
  split at h
  · rename_i u xs hcell
    split at h
    · rename_i hu
      cases h
      intro ls H locs cells slots hl hQ hc hs
      have h3 : u = 0 ∨ u = 1 ∨ u = 2 := by omega
      rcases h3 with rfl | rfl | rfl
      · obtain ⟨cell, c1, c2, -, -, c5, -⟩ := lm_rdI hG hQ (Or.inl ⟨rfl, rfl⟩) hcell
        exact W.alen hx hb c1 c2 c5.2 rfl rfl hd (k ls H locs cells slots hl hQ hc hs)
      · obtain ⟨cell, c1, c2, -, -, c5, -⟩ := lm_rdI hG hQ (Or.inr (Or.inl ⟨rfl, rfl⟩)) hcell
        exact W.alen hx hb c1 c2 c5.2 rfl rfl hd (k ls H locs cells slots hl hQ hc hs)
      · obtain ⟨cell, c1, c2, -, -, c5, -⟩ := lm_rdI hG hQ (Or.inr (Or.inr ⟨rfl, rfl⟩)) hcell
        exact W.alen hx hb c1 c2 c5.2 rfl rfl hd (k ls H locs cells slots hl hQ hc hs)
    · cases h
  · rename_i xs hcell
    cases h
    intro ls H locs cells slots hl hQ hc hs
    obtain ⟨cell, c1, c2, -, -, c5, -⟩ := lm_rdL hG hQ hcell
    exact W.alen hx hb c1 c2 c5.2 rfl rfl hd (k ls H locs cells slots hl hQ hc hs)
  · rename_i u xs hcell
    split at h
    · rename_i hu
      cases h
      intro ls H locs cells slots hl hQ hc hs
      obtain ⟨ty, -, cell, c1, c2, -, -, c5, -⟩ := lm_rdR hG hQ hu hcell
      exact W.alen hx hb c1 c2 c5.2 rfl rfl hd (k ls H locs cells slots hl hQ hc hs)
    · cases h
  · cases h
theorem ls_iast (hx : p.tables.exec = Jvm.exec) (hb : c.code = cc) (hG : lm_G D cl tc ad sc b s) {q : Nat} {i : Int32} {x : Int32} (h : lm_iast q i x σ = some (.ok (), σ')) (hd : decode cc pc = .ok (.iastore, 1)) (k : lm_Sim p l e R s m args below meth c D cl tc ad b nL Q (pc + 1) (lv) (st) σ') : lm_Sim p l e R s m args below meth c D cl tc ad b nL Q (pc) (lv) (.int x :: .int i :: .ref q :: st) σ := by
  unfold lm_iast at h
  split at h
  · rename_i hq
    split at h
    · rename_i u xs hcell
      split at h
      · rename_i hin
        cases h
        obtain ⟨rfl, h1, h2⟩ := hin
        intro ls H locs cells slots hl hQ hc hs
        show W _ _ _ _ _ _ _ _ _ _ _ _ _ _ _ (F0 m pc ls (.int x :: .int i :: .ref (ad q) :: st.map (lm_v ad)))
        rw [hG.1 q hq]
        have hc0 := (hQ.1 q _ (lm_ws_get hcell))
        refine W.iast hx hb hc0 ((hG.2.2.2.1.2 0 _ rfl).1 xs.length (fun j => .int (xs.getD j 0))) (fun z => by cases z) (by show ¬ (i < 0 ∨ (arrV _ _ _).slots.size ≤ _); rw [arrV_size]; exact fun z => z.elim h1 (Nat.not_le.mpr h2)) rfl rfl hd fun H1 e1 z1 oq => ?_
        refine k ls H1 _ cells slots hl (lm_Q_wr hQ hcell ?_ z1 oq (lm_okC_int (by decide)) (fun y hy => by rw [List.mem_singleton.mp hy])) hc hs
        show H1[b + q]? = some (arrV (tc 0) (xs.set i.toNatClampNeg x).length (fun j => .int ((xs.set i.toNatClampNeg x).getD j 0)))
        rw [e1]
        show some ((arrV _ _ _).setSlot _ _) = _
        rw [arrV_store, List.length_set]
        congr 2
        funext j
        show updV _ _ _ j = .int ((xs.set _ _).getD j 0)
        rw [lm_getD_set h2]
        unfold updV
        split <;> rfl
      · cases h
    · cases h
  · cases h
theorem ls_last (hx : p.tables.exec = Jvm.exec) (hb : c.code = cc) (hG : lm_G D cl tc ad sc b s) {q : Nat} {i : Int32} {x : Int64} (h : lm_last q i x σ = some (.ok (), σ')) (hd : decode cc pc = .ok (.lastore, 1)) (k : lm_Sim p l e R s m args below meth c D cl tc ad b nL Q (pc + 1) (lv) (st) σ') : lm_Sim p l e R s m args below meth c D cl tc ad b nL Q (pc) (lv) (.long x :: .int i :: .ref q :: st) σ := by
  unfold lm_last at h
  split at h
  · rename_i hq
    split at h
    · rename_i xs hcell
      split at h
      · rename_i hin
        cases h
        obtain ⟨h1, h2⟩ := hin
        intro ls H locs cells slots hl hQ hc hs
        show W _ _ _ _ _ _ _ _ _ _ _ _ _ _ _ (F0 m pc ls (.long x :: .int i :: .ref (ad q) :: st.map (lm_v ad)))
        rw [hG.1 q hq]
        have hc0 := (hQ.1 q _ (lm_ws_get hcell))
        refine W.last hx hb hc0 ((hG.2.2.2.1.2 7 _ rfl).1 xs.length (fun j => .long (xs.getD j 0))) (fun z => by cases z) (by show ¬ (i < 0 ∨ (arrV _ _ _).slots.size ≤ _); rw [arrV_size]; exact fun z => z.elim h1 (Nat.not_le.mpr h2)) rfl rfl hd fun H1 e1 z1 oq => ?_
        refine k ls H1 _ cells slots hl (lm_Q_wr hQ hcell ?_ z1 oq (lm_okC_other (fun _ _ z => by cases z)) (fun y hy => by rw [List.mem_singleton.mp hy])) hc hs
        show H1[b + q]? = some (arrV (tc 7) (xs.set i.toNatClampNeg x).length (fun j => .long ((xs.set i.toNatClampNeg x).getD j 0)))
        rw [e1]
        show some ((arrV _ _ _).setSlot _ _) = _
        rw [arrV_store, List.length_set]
        congr 2
        funext j
        show updV _ _ _ j = .long ((xs.set _ _).getD j 0)
        rw [lm_getD_set h2]
        unfold updV
        split <;> rfl
      · cases h
    · cases h
  · cases h
theorem ls_bast (hx : p.tables.exec = Jvm.exec) (hb : c.code = cc) (hG : lm_G D cl tc ad sc b s) {q : Nat} {i : Int32} {x : Int32} (h : lm_bast q i x σ = some (.ok (), σ')) (hd : decode cc pc = .ok (.bastore, 1)) (k : lm_Sim p l e R s m args below meth c D cl tc ad b nL Q (pc + 1) (lv) (st) σ') : lm_Sim p l e R s m args below meth c D cl tc ad b nL Q (pc) (lv) (.int x :: .int i :: .ref q :: st) σ := by
  unfold lm_bast at h
  split at h
  · rename_i hq
    split at h
    · rename_i u xs hcell
      split at h
      · rename_i hin
        cases h
        obtain ⟨hu, h1, h2⟩ := hin
        intro ls H locs cells slots hl hQ hc hs
        show W _ _ _ _ _ _ _ _ _ _ _ _ _ _ _ (F0 m pc ls (.int x :: .int i :: .ref (ad q) :: st.map (lm_v ad)))
        rw [hG.1 q hq]
        rcases hu with rfl | rfl
        · have hc0 := (hQ.1 q _ (lm_ws_get hcell))
          refine W.bast hx hb hc0 ((hG.2.2.2.1.2 1 _ rfl).1 xs.length (fun j => .int (xs.getD j 0))) (fun z => by cases z) (by show ¬ (i < 0 ∨ (arrV _ _ _).slots.size ≤ _); rw [arrV_size]; exact fun z => z.elim h1 (Nat.not_le.mpr h2)) rfl rfl hd fun H1 e1 z1 oq => ?_
          refine k ls H1 _ cells slots hl (lm_Q_wr hQ hcell ?_ z1 oq (fun ys ey y hy => by cases ey; rcases lm_mem_set hy with rfl | hy; exact lm_fits_nar x; exact hQ.2.2.2.2 q _ hcell xs rfl y hy) (fun y hy => by rw [List.mem_singleton.mp hy])) hc hs
          show H1[b + q]? = some (arrV (tc 1) (xs.set i.toNatClampNeg (if 1 = 1 then vp_nar .byte x else vp_nar .boolean x)).length (fun j => .int ((xs.set i.toNatClampNeg (if 1 = 1 then vp_nar .byte x else vp_nar .boolean x)).getD j 0)))
          rw [e1]
          show some ((arrV _ _ _).setSlot _ _) = _
          rw [arrV_store, List.length_set]
          congr 2
          funext j
          show updV _ _ _ j = .int ((xs.set _ _).getD j 0)
          rw [lm_getD_set h2]
          unfold updV
          split <;> rfl
        · have hc0 := (hQ.1 q _ (lm_ws_get hcell))
          refine W.zast hx hb hc0 ((hG.2.2.2.1.2 2 _ rfl).1 xs.length (fun j => .int (xs.getD j 0))) (fun z => by cases z) (by show ¬ (i < 0 ∨ (arrV _ _ _).slots.size ≤ _); rw [arrV_size]; exact fun z => z.elim h1 (Nat.not_le.mpr h2)) rfl rfl hd fun H1 e1 z1 oq => ?_
          refine k ls H1 _ cells slots hl (lm_Q_wr hQ hcell ?_ z1 oq (lm_okC_int (by decide)) (fun y hy => by rw [List.mem_singleton.mp hy])) hc hs
          show H1[b + q]? = some (arrV (tc 2) (xs.set i.toNatClampNeg (if 2 = 1 then vp_nar .byte x else vp_nar .boolean x)).length (fun j => .int ((xs.set i.toNatClampNeg (if 2 = 1 then vp_nar .byte x else vp_nar .boolean x)).getD j 0)))
          rw [e1]
          show some ((arrV _ _ _).setSlot _ _) = _
          rw [arrV_store, List.length_set]
          congr 2
          funext j
          show updV _ _ _ j = .int ((xs.set _ _).getD j 0)
          rw [lm_getD_set h2]
          unfold updV
          split <;> rfl
      · cases h
    · cases h
  · cases h
end LMI
