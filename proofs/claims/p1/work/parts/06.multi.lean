/-! ===== new T[n][k], System.arraycopy ===== -/
theorem lm_ws_appL {b : Nat} {tc : Nat → ClassId} {ad : Nat → Nat} {h L : lm_H} : lm_ws b tc ad (h ++ L) = lm_ws b tc ad h ++ lm_ws (b + h.length) tc ad L := by
  unfold lm_ws
  rw [List.mapIdx_append]
  congr 2
  funext k c
  rw [Nat.add_assoc, Nat.add_comm h.length k]
theorem lm_Q_pushL {D : va_G} {cl : List vw_C} {tc : Nat → ClassId} {ad : Nat → Nat} {b : Nat} {s : State} {h : lm_H} {H : Heap} {locs : List Loc} {H1 : Heap} {L : lm_H} (hQ : lm_Q D cl tc ad b s h H locs) (hat : ∀ k c', L[k]? = some c' → va_at D cl (H.size + k, lm_e tc ad c') H1) (hz : H1.size = H.size + L.length) (ho : ∀ q, q < H.size → H1[q]? = H[q]?) (hl : h.length + L.length < lm_B) (hok : lm_okH L) : lm_Q D cl tc ad b s (h ++ L) H1 locs := by
  refine ⟨?_, ?_, ⟨Nat.le_trans hQ.2.2.1.1 (by omega), fun x h1 h2 => (ho x (Nat.lt_of_lt_of_le h1 hQ.2.2.1.1)).trans (hQ.2.2.1.2.1 x h1 h2), hQ.2.2.1.2.2⟩, ?_, hQ.2.2.2.2.app hok⟩
  · rw [lm_ws_appL]
    have hk : va_P D cl (lm_ws b tc ad h) H1 := hQ.1.kept (fun k x hx => ho x.1 ((hQ.1 k x hx).lt))
    refine hk.app (fun k x hx => ?_)
    obtain ⟨c', hc', rfl⟩ := lm_ws_inv hx
    rw [← hQ.2.1]
    exact hat k c' hc'
  · rw [hz, hQ.2.1, List.length_append, Nat.add_assoc]
  · rw [List.length_append]
    exact Nat.le_of_lt hl
theorem lm_outer (c : ClassId) (N h0 : Nat) : ∀ i : Nat, Jvm.Free.Multi.outerC c N h0 i = arrV c N (fun j => va_rf (if j < i then some (h0 + 1 + j) else none))
  | 0 => by
    show ({ cls := c, slots := Array.replicate N .null, vm := .none } : Cell) = _
    rw [arrV_new]
    refine congrArg (arrV c N) (funext fun j => ?_)
    simp [va_rf]
  | i + 1 => by
    show (Jvm.Free.Multi.outerC c N h0 i).setSlot i (.ref (h0 + 1 + i)) = _
    rw [lm_outer c N h0 i, arrV_store]
    refine congrArg (arrV c N) (funext fun j => ?_)
    by_cases e : j = i
    · subst e
      simp [updV, va_rf]
    · by_cases h : j < i
      · simp [updV, e, h, Nat.lt_succ_of_lt h]
      · simp [updV, e, h, show ¬ j < i + 1 by omega]
section LMI
variable {p : Program} {l : Launch} {e : Env} {R : Room} {s : State} {m : MethodId} {args : Array Value} {below : List Frame} {meth : Method} {c : Code} {D : va_G} {cl : List vw_C} {tc : Nat → ClassId} {ad : Nat → Nat} {sc : lm_H} {b nL : Nat} {Q : State → Prop} {cc : ByteArray} {pc : Nat} {lv : lm_L} {st : List Value} {σ σ' : lm_S} {own : String}
/-- the making of n rows of k, for one component type -/
theorem lm_mna (hx : p.tables.exec = Jvm.exec) (hb : c.code = cc) (hown : s.vm.findClass own = some m.cls) (hG : lm_G D cl tc ad sc b s) {idx t q : Nat} {ty : FieldType} {n k0 : Int32} (hcl : (Cond.classLink own idx ("[" ++ (FieldType.array ty).toString)).before args s = true) (hov : (Cond.arrayOver (.array ty)).before args s = true) (harr : (Cond.arrayClass ty).before args s = true)
    (h3 : s.vm.findClass ("[" ++ (FieldType.array ty).toString) = some (tc t)) (h4 : s.vm.findClass (FieldType.array ty).toString = some (tc (t - 3))) (hdv : defaultValue ty = .int 0) (hdf : fits ty (.int 0) = true) (hcb : componentBytes ty ≤ 4) (hok : t - 3 = 1 → True)
    (h : lm_newm t n k0 σ = some (.ok q, σ')) (hd : decode cc pc = .ok (.multianewarray idx 2, 4)) (k : lm_Sim p l e R s m args below meth c D cl tc ad b nL Q (pc + 4) (lv) (.ref q :: st) σ') : lm_Sim p l e R s m args below meth c D cl tc ad b nL Q (pc) (lv) (.int k0 :: .int n :: st) σ := by
  unfold lm_newm at h
  split at h
  · rename_i hr
    cases h
    obtain ⟨hn, hn1, hk, hk1, -, -, hl0, hcs, hss⟩ := hr
    intro ls H locs cells slots hl hQ hcc hsl
    intro T hT Xs
    obtain ⟨vm₁, cA, comp, -, fA, fC, hO, -, X', step⟩ := Xs.multianewarray2F hx hown hcl hov harr (g := F0 m pc ls (.int k0 :: .int n :: st.map (lm_v ad))) rfl (by rw [hb]; exact hd) rfl hn hk (by omega) (by have := Nat.mul_le_mul hk1 hcb; omega) (by omega) (by rw [hdv]; exact hdf) (by rw [hdv]; rfl) (by omega) (by omega)
    have eA : cA = tc t := Option.some.inj (fA.symm.trans h3)
    have eC : comp = tc (t - 3) := Option.some.inj (fC.symm.trans h4)
    subst eA
    subst eC
    generalize hF : Jvm.Free.Multi.fill (T.setVm vm₁) (tc t) (tc (t - 3)) n.toNatClampNeg k0.toNatClampNeg (defaultValue ty) n.toNatClampNeg = F at X' step
    have hTh : (T.setVm vm₁).heap = H := hT
    obtain ⟨f1, f2, -, -⟩ := Jvm.Free.Multi.fill_facts (T.setVm vm₁) (tc t) (tc (t - 3)) n.toNatClampNeg k0.toNatClampNeg (defaultValue ty) n.toNatClampNeg
    rw [hF, hTh] at f1 f2
    have hold : ∀ x : Nat, x < H.size → F.heap[x]? = H[x]? := fun x hx => by
      have := Jvm.Free.Multi.fill_old (T.setVm vm₁) (tc t) (tc (t - 3)) n.toNatClampNeg k0.toNatClampNeg (defaultValue ty) (a := x) (by rw [hTh]; exact hx) n.toNatClampNeg
      rw [hF, hTh] at this
      exact this
    have hrow : ∀ j : Nat, j < n.toNatClampNeg → F.heap[H.size + 1 + j]? = some (arrV (tc (t - 3)) k0.toNatClampNeg (fun _ => .int 0)) := fun j hj => by
      have := Jvm.Free.Multi.fill_inner (T.setVm vm₁) (tc t) (tc (t - 3)) n.toNatClampNeg k0.toNatClampNeg (defaultValue ty) n.toNatClampNeg j hj
      rw [hF, hTh, hdv] at this
      rw [this]
      show some ({ cls := tc (t - 3), slots := Array.replicate k0.toNatClampNeg (.int 0), vm := .none } : Cell) = _
      rw [arrV_new]
    rw [lm_outer] at f2
    have e9 : ad σ.1.length = H.size := by rw [hG.1 _ (by omega), hQ.2.1]
    have hat : ∀ (k9 : Nat) (c' : lm_C), ((.inr (.inr (.inl (t, (List.range n.toNatClampNeg).map fun i => some (σ.1.length + 1 + i)))) :: List.replicate n.toNatClampNeg (.inl (t - 3, List.replicate k0.toNatClampNeg 0)) : lm_H))[k9]? = some c' → va_at D cl (H.size + k9, lm_e tc ad c') F.heap := by
      intro k9 c' hc'
      cases k9 with
      | zero =>
        cases hc'
        show F.heap[H.size]? = some (arrV (tc t) ((List.range n.toNatClampNeg).map fun i => some (σ.1.length + 1 + i)).length (fun j => va_rf ((((List.range n.toNatClampNeg).map fun i => some (σ.1.length + 1 + i)).getD j none).map ad)))
        rw [f2, List.length_map, List.length_range]
        congr 2
        funext j
        rw [List.getD_eq_getElem?_getD, List.getElem?_map]
        by_cases hj : j < n.toNatClampNeg
        · rw [if_pos hj, List.getElem?_range hj]
          show va_rf (some (H.size + 1 + j)) = va_rf (some (ad (σ.1.length + 1 + j)))
          rw [hG.1 _ (by omega), hQ.2.1]
          congr 2
          omega
        · rw [if_neg hj, List.getElem?_eq_none (by rw [List.length_range]; omega)]
          rfl
      | succ j =>
        rw [List.getElem?_cons_succ, List.getElem?_replicate] at hc'
        by_cases hj : j < n.toNatClampNeg
        · rw [if_pos hj] at hc'
          cases hc'
          show F.heap[H.size + (j + 1)]? = some (arrV (tc (t - 3)) (List.replicate k0.toNatClampNeg (0 : Int32)).length (fun i => .int ((List.replicate k0.toNatClampNeg (0 : Int32)).getD i 0)))
          rw [show H.size + (j + 1) = H.size + 1 + j by omega, hrow j hj, List.length_replicate]
          congr 2
          funext i
          rw [List.getD_eq_getElem?_getD, List.getElem?_replicate]
          split <;> rfl
        · rw [if_neg hj] at hc'
          cases hc'
    have hokL : lm_okH (.inr (.inr (.inl (t, (List.range n.toNatClampNeg).map fun i => some (σ.1.length + 1 + i)))) :: List.replicate n.toNatClampNeg (.inl (t - 3, List.replicate k0.toNatClampNeg 0))) := by
      intro k9 c' hc'
      cases k9 with
      | zero =>
        cases hc'
        exact lm_okC_other (fun _ _ z => by cases z)
      | succ j =>
        rw [List.getElem?_cons_succ, List.getElem?_replicate] at hc'
        split at hc'
        · cases hc'
          exact fun ys ey y hy => by
            have ey2 := congrArg (fun z : lm_C => match z with | .inl (_, zs) => zs | _ => []) ey
            have ey3 : List.replicate k0.toNatClampNeg 0 = ys := ey2
            rw [← ey3] at hy
            rw [List.eq_of_mem_replicate hy]; rfl
        · cases hc'
    have hz1 : F.heap.size = H.size + (1 + n.toNatClampNeg) := by rw [f1]; omega
    have k9 := k ls F.heap locs (cells + 1 + n.toNatClampNeg) (slots + n.toNatClampNeg + n.toNatClampNeg * k0.toNatClampNeg) hl (lm_Q_pushL hQ hat (by rw [hz1, List.length_cons, List.length_replicate]; omega) hold (by rw [List.length_cons, List.length_replicate]; omega) hokL) (by show cells + 1 + n.toNatClampNeg + (σ.2.1 - (1 + n.toNatClampNeg)) ≤ _; omega) (by show slots + n.toNatClampNeg + n.toNatClampNeg * k0.toNatClampNeg + (σ.2.2 - (n.toNatClampNeg + n.toNatClampNeg * k0.toNatClampNeg)) ≤ _; omega)
    rw [List.map_cons, show lm_v ad (.ref σ.1.length) = .ref (ad σ.1.length) from rfl, e9] at k9
    obtain ⟨t9, a1, b1⟩ := k9 F rfl X'
    refine ⟨t9, step t9 ?_, b1⟩
    have e : T.heap.size = H.size := by rw [hT]
    rw [e]
    exact a1
  · cases h
end LMI
theorem lm_lay_len {α : Type} {xs ys : List α} {sp dp n : Nat} (h1 : sp + n ≤ ys.length) (h2 : dp + n ≤ xs.length) : (lm_lay xs ys sp dp n).length = xs.length := by
  unfold lm_lay
  simp only [List.length_append, List.length_take, List.length_drop]
  omega
theorem lm_lay_get {α : Type} {xs ys : List α} {sp dp n : Nat} {d : α} (h1 : sp + n ≤ ys.length) (h2 : dp + n ≤ xs.length) (j : Nat) : (lm_lay xs ys sp dp n).getD j d = va_cpy (fun i => ys.getD i d) (fun i => xs.getD i d) sp dp n j := by
  unfold lm_lay va_cpy
  simp only [List.getD_eq_getElem?_getD, List.getElem?_append, List.getElem?_take, List.getElem?_drop, List.length_take, List.length_drop]
  by_cases a1 : j < dp
  · rw [if_pos (by omega), if_pos a1, if_neg (by omega)]
  · by_cases a2 : j < dp + n
    · rw [if_neg (by omega), if_pos (by omega), if_pos (by omega), if_pos (by omega)]
      congr 2
      omega
    · rw [if_neg (by omega), if_neg (by omega), if_neg (by omega)]
      congr 2
      omega
theorem lm_lay_mem {α : Type} {xs ys : List α} {sp dp n : Nat} {y : α} (h : y ∈ lm_lay xs ys sp dp n) : y ∈ xs ∨ y ∈ ys := by
  unfold lm_lay at h
  rcases List.mem_append.mp h with h | h
  · exact Or.inl (List.mem_of_mem_take h)
  · rcases List.mem_append.mp h with h | h
    · exact Or.inr (List.mem_of_mem_drop (List.mem_of_mem_take h))
    · exact Or.inl (List.mem_of_mem_drop h)
section LMC
variable {p : Program} {l : Launch} {e : Env} {R : Room} {s : State} {m : MethodId} {args : Array Value} {below : List Frame} {meth : Method} {c : Code} {H : Heap} {locs : List Loc} {cells slots : Nat} {Q : State → Prop} {cc : ByteArray} {pc : Nat} {ls : Array Slot} {rest : List Value}
theorem lm_copyW {α : Type} (mk : α → Value) (ty : FieldType) (hx : p.tables.exec = Jvm.exec) (hb : c.code = cc) (hml : c.maxLocals = ls.size) {own : String} {index : Nat} (hown : s.vm.findClass own = some m.cls) (hlink : (Cond.methodLink own index arraycopyName).before args s = true) (hnat : (Cond.native arraycopyName).before args s = true) (hstat : (Cond.static arraycopyName).before args s = true) (hini : (Cond.initialized "java/lang/System").before args s = true)
    {a0 a : Nat} {c1 : ClassId} {n0 n1 : Nat} {f g : Nat → α} (hc0 : lm_arr s H a0 ty n0 (fun j => mk (f j))) (hc1 : H[a]? = some (arrV c1 n1 (fun j => mk (g j)))) (hA1 : ArrOfT s c1 ty) (hprim : refKind ty = false) (htk : ∀ (U : State) (k : ClassId) (x : α), U.takes k (mk x))
    {sp dp n : Int32} (h1 : ¬ sp < 0) (h2 : ¬ dp < 0) (h3 : ¬ n < 0) (h4 : sp.toNatClampNeg + n.toNatClampNeg ≤ n0) (h5 : dp.toNatClampNeg + n.toNatClampNeg ≤ n1) (hfit : ∀ i, i < n.toNatClampNeg → fits ty (mk (f (sp.toNatClampNeg + i))) = true)
    (hframes : 1 ≤ R.frames) (hlocals : (rest.map fun v => v.category).sum + (nativeFrameWords "java/lang/System" "arraycopy" 5 + 11) ≤ R.locals) (hdg : decode cc pc = .ok (.invokestatic index, 3))
    (kk : ∀ (H1 : Heap) (L : List Loc), H1[a]? = some (arrV c1 n1 (fun j => mk (va_cpy f g sp.toNatClampNeg dp.toNatClampNeg n.toNatClampNeg j))) → H1.size = H.size → (∀ q, q ≠ a → H1[q]? = H[q]?) → (∀ x ∈ L, x.base = a) → W p l e R s m args below meth c H1 (locs ++ L) cells slots Q (F0 m (pc + 3) ls rest)) : W p l e R s m args below meth c H locs cells slots Q (F0 m pc ls (.int n :: .int dp :: .ref a :: .int sp :: .ref a0 :: rest)) := by
  have nn : ∀ z : Int32, ¬ z < 0 → z.toInt = (z.toNatClampNeg : Int) := by
    intro z hz
    have hz0 : (0 : Int) ≤ z.toInt := by
      have := Int32.not_lt.mp hz
      simpa using Int32.le_iff_toInt_le.mp this
    show z.toInt = ((z.toInt.toNat : Nat) : Int)
    omega
  intro T hT X
  obtain ⟨cs, hc0, hA0, hun, hns, hz0, hv0⟩ := hc0
  obtain ⟨-, k0, hk0, cm0, hkk0⟩ := hA0
  obtain ⟨-, k1, hk1, cm1, hkk1⟩ := hA1 n1 (fun j => mk (g j))
  obtain ⟨vm', X', step⟩ := X.arraycopy hx hown hlink hnat hstat hini (src := a0) (dst := a) (cs := cs) (cd := arrV c1 n1 (fun j => mk (g j))) (srcPos := sp) (destPos := dp) (n := n) (by rw [hT]; exact hc0) (by rw [hT]; exact hc1)
    hns (fun _ h => by cases h) hun (fun h => by cases h) hk0 hk1 hkk0 hkk1 (by simp [hprim]) h1 h2 h3
    (by rw [nn sp h1, nn n h3]; have := hz0.1; omega)
    (by rw [nn dp h2, nn n h3, arrV_size]; omega)
    (fun vm₁ _ i hi => by
      have e : cs.slots.getD (sp.toNatClampNeg + i) .null = mk (f (sp.toNatClampNeg + i)) := by
        rw [Array.getD_eq_getD_getElem?, hv0 _ (by omega)]
        rfl
      refine ⟨?_, ?_⟩
      · rw [e]
        exact hfit i hi
      · rw [e]
        exact htk _ _ _)
    (g := F0 m pc ls (.int n :: .int dp :: .ref a :: .int sp :: .ref a0 :: rest)) rfl (by rw [hml]) (rest := rest) rfl (by rw [hb]; exact hdg) hframes (by show 2 * 0 + _ + _ ≤ _; omega)
  have es : cs.stretch sp.toNatClampNeg n.toNatClampNeg = (arrV c1 n0 (fun j => mk (f j))).stretch sp.toNatClampNeg n.toNatClampNeg := by
    unfold Cell.stretch
    apply List.map_congr_left
    intro i hi
    have hi := List.mem_range.mp hi
    rw [Array.getD_eq_getD_getElem?, Array.getD_eq_getD_getElem?, hv0 _ (by omega), arrV_read _ _ (by omega)]
  have e1 : copied cs (arrV c1 n1 (fun j => mk (g j))) sp dp n = arrV c1 n1 (fun j => mk (va_cpy f g sp.toNatClampNeg dp.toNatClampNeg n.toNatClampNeg j)) := by
    show (arrV c1 n1 (fun j => mk (g j))).storeRun _ (cs.stretch _ _) = _
    rw [es]
    exact va_copied mk c1 c1 f g h4
  rw [e1] at X' step
  have hl : a < H.size := (Array.getElem?_eq_some_iff.mp hc1).1
  generalize hY : arrV c1 n1 (fun j => mk (va_cpy f g sp.toNatClampNeg dp.toNatClampNeg n.toNatClampNeg j)) = Y at X' step kk
  have hheap : ((T.setVm vm').setCell a Y).heap = H.setIfInBounds a Y := by rw [← hT]; rfl
  obtain ⟨t, a1, b1⟩ := kk (H.setIfInBounds a Y) _ (by simp [Array.getElem?_setIfInBounds, hl]) (by simp) (fun q hq => by simp [Array.getElem?_setIfInBounds, Ne.symm hq]) (fun x hx => by
      obtain ⟨z, -, hz⟩ := List.mem_map.mp hx
      rw [← hz]) _ hheap X'
  exact ⟨t, step t a1, b1⟩
end LMC
section LMI2
variable {p : Program} {l : Launch} {e : Env} {R : Room} {s : State} {m : MethodId} {args : Array Value} {below : List Frame} {meth : Method} {c : Code} {D : va_G} {cl : List vw_C} {tc : Nat → ClassId} {ad : Nat → Nat} {sc : lm_H} {b nL : Nat} {Q : State → Prop} {cc : ByteArray} {pc : Nat} {lv : lm_L} {st : List Value} {σ σ' : lm_S} {own : String}
/-- room for the native's frame over a stack of the weight of st -/
def lm_rm (R : Room) (st : List Value) : Prop := 1 ≤ R.frames ∧ (st.map fun v => v.category).sum + (nativeFrameWords "java/lang/System" "arraycopy" 5 + 11) ≤ R.locals
theorem lm_okC_cell {h : lm_H} {q : Nat} {c : lm_C} (h1 : lm_okH sc) (h2 : lm_okH h) (hc : lm_cell sc h q = some c) : lm_okC c := by
  unfold lm_cell at hc
  split at hc
  · exact h2 _ _ hc
  · exact h1 _ _ hc
theorem lm_cat_map (ad : Nat → Nat) (st : List Value) : ((st.map (lm_v ad)).map fun v => v.category).sum = (st.map fun v => v.category).sum := by
  rw [List.map_map]
  congr 1
  apply List.map_congr_left
  intro v _
  exact lm_v_cat ad v
theorem ls_copy (hx : p.tables.exec = Jvm.exec) (hb : c.code = cc) (hml : c.maxLocals = nL) (hown : s.vm.findClass own = some m.cls) (hG : lm_G D cl tc ad sc b s) {idx a d : Nat} {sp dp n : Int32} (hlink : (Cond.methodLink own idx arraycopyName).before args s = true) (hnat : (Cond.native arraycopyName).before args s = true) (hstat : (Cond.static arraycopyName).before args s = true) (hini : (Cond.initialized "java/lang/System").before args s = true) (hrm : lm_rm R st) (h : lm_copy sc a sp d dp n σ = some (.ok (), σ')) (hd : decode cc pc = .ok (.invokestatic idx, 3)) (k : lm_Sim p l e R s m args below meth c D cl tc ad b nL Q (pc + 3) (lv) (st) σ') : lm_Sim p l e R s m args below meth c D cl tc ad b nL Q (pc) (lv) (.int n :: .int dp :: .ref d :: .int sp :: .ref a :: st) σ := by
  unfold lm_copy at h
  split at h
  · rename_i hq
    split at h
    · rename_i u ys v xs hca hcb
      split at h
      · rename_i hin
        cases h
        obtain ⟨rfl, hu, h1, h2⟩ := hin
        intro ls H locs cells slots hl hQ hcc hsl
        show W _ _ _ _ _ _ _ _ _ _ _ _ _ _ _ (F0 m pc ls (.int n :: .int dp :: .ref (ad d) :: .int sp :: .ref (ad a) :: st.map (lm_v ad)))
        rw [hG.1 d hq.1]
        rcases hu with rfl | rfl
        · refine lm_copyW (α := Int32) Value.int .int hx hb (hml.trans hl.1.symm) hown hlink hnat hstat hini (f := fun j => ys.getD j 0) (g := fun j => xs.getD j 0) (lm_rdI hG hQ (Or.inl ⟨rfl, rfl⟩) hca) (hQ.1 d _ (lm_ws_get hcb)) (hG.2.2.2.1.2 0 _ rfl).1 rfl (fun _ _ _ => trivial) hq.2.1 hq.2.2.1 hq.2.2.2 h1 h2 (fun i hi => rfl) hrm.1 (by rw [lm_cat_map]; exact hrm.2) hd fun H1 L e1 z1 oq hL => ?_
          refine k ls H1 _ cells slots hl (lm_Q_wr hQ hcb ?_ z1 oq (lm_okC_int (by decide)) hL) hcc hsl
          show H1[b + d]? = some (arrV (tc 0) (lm_lay xs ys sp.toNatClampNeg dp.toNatClampNeg n.toNatClampNeg).length (fun j => Value.int ((lm_lay xs ys sp.toNatClampNeg dp.toNatClampNeg n.toNatClampNeg).getD j 0)))
          rw [e1, lm_lay_len h1 h2]
          congr 2
          funext j
          rw [lm_lay_get h1 h2]
        · refine lm_copyW (α := Int32) Value.int .byte hx hb (hml.trans hl.1.symm) hown hlink hnat hstat hini (f := fun j => ys.getD j 0) (g := fun j => xs.getD j 0) (lm_rdI hG hQ (Or.inr (Or.inl ⟨rfl, rfl⟩)) hca) (hQ.1 d _ (lm_ws_get hcb)) (hG.2.2.2.1.2 1 _ rfl).1 rfl (fun _ _ _ => trivial) hq.2.1 hq.2.2.1 hq.2.2.2 h1 h2 (fun i hi => lm_okC_cell hG.2.2.2.2.1 hQ.2.2.2.2 hca ys rfl _ (by rw [List.getD_eq_getElem?_getD, List.getElem?_eq_getElem (by omega)]; exact List.getElem_mem _)) hrm.1 (by rw [lm_cat_map]; exact hrm.2) hd fun H1 L e1 z1 oq hL => ?_
          refine k ls H1 _ cells slots hl (lm_Q_wr hQ hcb ?_ z1 oq (fun zs ez y hy => by cases ez; rcases lm_lay_mem hy with hy | hy; exact hQ.2.2.2.2 d _ hcb xs rfl y hy; exact lm_okC_cell hG.2.2.2.2.1 hQ.2.2.2.2 hca ys rfl y hy) hL) hcc hsl
          show H1[b + d]? = some (arrV (tc 1) (lm_lay xs ys sp.toNatClampNeg dp.toNatClampNeg n.toNatClampNeg).length (fun j => Value.int ((lm_lay xs ys sp.toNatClampNeg dp.toNatClampNeg n.toNatClampNeg).getD j 0)))
          rw [e1, lm_lay_len h1 h2]
          congr 2
          funext j
          rw [lm_lay_get h1 h2]
      · cases h
    · rename_i ys xs hca hcb
      split at h
      · rename_i hin
        cases h
        obtain ⟨h1, h2⟩ := hin
        intro ls H locs cells slots hl hQ hcc hsl
        show W _ _ _ _ _ _ _ _ _ _ _ _ _ _ _ (F0 m pc ls (.int n :: .int dp :: .ref (ad d) :: .int sp :: .ref (ad a) :: st.map (lm_v ad)))
        rw [hG.1 d hq.1]
        refine lm_copyW (α := Int64) Value.long .long hx hb (hml.trans hl.1.symm) hown hlink hnat hstat hini (f := fun j => ys.getD j 0) (g := fun j => xs.getD j 0) (lm_rdL hG hQ hca) (hQ.1 d _ (lm_ws_get hcb)) (hG.2.2.2.1.2 7 _ rfl).1 rfl (fun _ _ _ => trivial) hq.2.1 hq.2.2.1 hq.2.2.2 h1 h2 (fun i hi => rfl) hrm.1 (by rw [lm_cat_map]; exact hrm.2) hd fun H1 L e1 z1 oq hL => ?_
        refine k ls H1 _ cells slots hl (lm_Q_wr hQ hcb ?_ z1 oq (lm_okC_other (fun _ _ z => by cases z)) hL) hcc hsl
        show H1[b + d]? = some (arrV (tc 7) (lm_lay xs ys sp.toNatClampNeg dp.toNatClampNeg n.toNatClampNeg).length (fun j => Value.long ((lm_lay xs ys sp.toNatClampNeg dp.toNatClampNeg n.toNatClampNeg).getD j 0)))
        rw [e1, lm_lay_len h1 h2]
        congr 2
        funext j
        rw [lm_lay_get h1 h2]
      · cases h
    · cases h
  · cases h
end LMI2
