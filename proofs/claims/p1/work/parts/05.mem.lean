/-! ===== fields, new cells, System.arraycopy ===== -/
/-- the field entry idx of own's pool, at every object that may come -/
def lm_fl (own : String) (args : Array Value) (s : State) (cl : List vw_C) (idx : Nat) (ref : String) (e : Nat) : Prop := ∀ (ci : Nat) (C : String) (T : u_T) (N : Nat), lm_sub (e / 400) ci = true → cl[ci]? = some (C, T, N) →
  e / 4 % 100 < N ∧ (∀ w ∈ u_ws C T N, w.before args s = true) ∧ (Cond.fieldLink own idx ref (T (e / 4 % 100)).2.1 (T (e / 4 % 100)).2.2.1).before args s = true ∧ ∀ x, s.fieldFound? (T (e / 4 % 100)).1 (T (e / 4 % 100)).2.1 (T (e / 4 % 100)).2.2.1 = some x → s.fieldFound? ref (T (e / 4 % 100)).2.1 (T (e / 4 % 100)).2.2.1 = some x
def lm_kd (k : Nat) (ty : FieldType) : Prop := match k with
  | 0 => ty = .int
  | 1 => ty = .long
  | 2 => (∃ n, ty = .object n) ∨ ∃ t, ty = .array t
  | _ => ty = .boolean
def lm_fp (own : String) (args : Array Value) (s : State) (meth : Method) (cl : List vw_C) (e : Nat) : Prop := ∀ (ci : Nat) (C : String) (T : u_T) (N : Nat), lm_sub (e / 400) ci = true → cl[ci]? = some (C, T, N) →
  ∃ ty0 : Nat → FieldType, (∀ k, k < N → parseFieldDescriptor (T k).2.2.1 = some (ty0 k)) ∧ (∀ a, a < N → ∀ b, b < N → a ≠ b → (T a).2.1 ≠ (T b).2.1) ∧ lm_kd (e % 4) (ty0 (e / 4 % 100)) ∧ ((T (e / 4 % 100)).2.2.2 = false ∨ ((T (e / 4 % 100)).2.2.2 = true ∧ meth.name = "<init>" ∧ (T (e / 4 % 100)).1 = own))
theorem lm_kd_fits {k : Nat} {ty : FieldType} {v : Value} (ad : Nat → Nat) (hk : k < 4) (h : lm_kd k ty) (hv : lm_fits k v = true) : narrow ty (lm_v ad v) = lm_v ad v ∧ fits ty (lm_v ad v) = true := by
  have h4 : k = 0 ∨ k = 1 ∨ k = 2 ∨ k = 3 := by omega
  rcases h4 with rfl | rfl | rfl | rfl
  · cases h
    cases v <;> first | exact ⟨rfl, rfl⟩ | cases hv
  · cases h
    cases v <;> first | exact ⟨rfl, rfl⟩ | cases hv
  · rcases h with ⟨n, rfl⟩ | ⟨n, rfl⟩ <;> cases v <;> first | exact ⟨rfl, rfl⟩ | cases hv
  · cases h
    cases v with
    | int x =>
      have h0 : x = 0 ∨ x = 1 := by
        by_cases h0 : x = 0
        · exact Or.inl h0
        · by_cases h1 : x = 1
          · exact Or.inr h1
          · simp [lm_fits, h0, h1] at hv
      rcases h0 with rfl | rfl <;> exact ⟨rfl, rfl⟩
    | _ => cases hv
section LMI
variable {p : Program} {l : Launch} {e : Env} {R : Room} {s : State} {m : MethodId} {args : Array Value} {below : List Frame} {meth : Method} {c : Code} {D : va_G} {cl : List vw_C} {tc : Nat → ClassId} {ad : Nat → Nat} {sc : lm_H} {b nL : Nat} {Q : State → Prop} {cc : ByteArray} {pc : Nat} {lv : lm_L} {st : List Value} {σ σ' : lm_S} {own : String}
theorem ls_getf (hx : p.tables.exec = Jvm.exec) (hb : c.code = cc) (hown : s.vm.findClass own = some m.cls) (hG : lm_G D cl tc ad sc b s) {f idx q : Nat} {ref : String} (hf : lm_fl own args s cl idx ref f) {v : Value} (h : lm_getf f q σ = some (.ok v, σ')) (hd : decode cc pc = .ok (.getfield idx, 3)) (k : lm_Sim p l e R s m args below meth c D cl tc ad b nL Q (pc + 3) (lv) (v :: st) σ') : lm_Sim p l e R s m args below meth c D cl tc ad b nL Q (pc) (lv) (.ref q :: st) σ := by
  unfold lm_getf at h
  split at h
  · rename_i ci fs hcell
    split at h
    · rename_i hq
      split at h
      · rename_i v9 hv
        cases h
        intro ls H locs cells slots hl hQ hc hs
        have hat := lm_at hG hQ hq.1 hcell
        obtain ⟨r, h1, -⟩ := hat
        obtain ⟨C, T, N⟩ := r
        obtain ⟨hk, hts, hlink, hsame⟩ := hf ci C T N hq.2 h1
        exact va_get (ws := [(ad q, lm_e tc ad _)]) hx hb hts (fun _ z => z) hown hG.2.2.2.1 (lm_at1 hG hQ hq.1 hcell) 0 rfl h1 (f / 4 % 100) hk hlink hsame (v := lm_v ad v) (by rw [List.getElem?_map, hv]; rfl) hd (k ls H locs cells slots hl hQ hc hs)
      · cases h
    · cases h
  · cases h
theorem ls_putf (hx : p.tables.exec = Jvm.exec) (hb : c.code = cc) (hown : s.vm.findClass own = some m.cls) (hG : lm_G D cl tc ad sc b s) {f idx q : Nat} {ref : String} (hf : lm_fl own args s cl idx ref f) (hp : lm_fp own args s meth cl f) {v : Value} (h : lm_putf f q v σ = some (.ok (), σ')) (hd : decode cc pc = .ok (.putfield idx, 3)) (k : lm_Sim p l e R s m args below meth c D cl tc ad b nL Q (pc + 3) (lv) (st) σ') : lm_Sim p l e R s m args below meth c D cl tc ad b nL Q (pc) (lv) (v :: .ref q :: st) σ := by
  unfold lm_putf at h
  split at h
  · rename_i ci fs hcell
    split at h
    · rename_i hq
      cases h
      obtain ⟨hq, hsub, hlen, hft⟩ := hq
      intro ls H locs cells slots hl hQ hc hs
      show W _ _ _ _ _ _ _ _ _ _ _ _ _ _ _ (F0 m pc ls (lm_v ad v :: .ref (ad q) :: st.map (lm_v ad)))
      rw [hG.1 q hq]
      obtain ⟨r, h1, cell, q1, q2, q3, q4⟩ := hQ.1 q _ (lm_ws_get hcell)
      obtain ⟨C, T, N⟩ := r
      obtain ⟨hk, hts, hlink, hsame⟩ := hf ci C T N hsub h1
      obtain ⟨ty0, hty, hnm, hkd, hfin⟩ := hp ci C T N hsub h1
      have hap := va_apart (own := own) hts (fun _ z => z) ty0 hty hnm hG.2.2.2.1 h1
      obtain ⟨hS, hfc, kC, hkC, hkind⟩ := hG.2.2.2.1.1 ci _ h1
      obtain ⟨cf, kf, fi, fd, hi, hsl⟩ := hS (f / 4 % 100) hk
      obtain ⟨hn, hfit⟩ := lm_kd_fits ad (Nat.mod_lt f (by decide)) hkd hft
      have hlay := hts _ (u_in_lay hk)
      have hst := (u_facts hfc hkC (u_lays hts (fun _ z => z) hk) hi).1
      have key : ∀ H' : Heap, H'[b + q]? = some (cell.setSlot fd.slot (lm_v ad v)) → H'.size = H.size → (∀ x, x ≠ b + q → H'[x]? = H[x]?) → W p l e R s m args below meth c H' (locs ++ [⟨b + q, fd.slot⟩]) cells slots Q (F0 m (pc + 3) ls (st.map (lm_v ad))) := fun H' e1 e2 e3 => by
        refine k ls H' _ cells slots hl (lm_Q_wr hQ hcell ?_ e2 e3 (lm_okC_other (fun _ _ z => by cases z)) (fun y hy => by rw [List.mem_singleton.mp hy])) hc hs
        rw [hsl] at e1
        refine ⟨_, h1, t_OB.to (V := updV (vp_V (fs.map (lm_v ad))) (f / 4 % 100) (lm_v ad v)) ⟨_, e1, q2, q3, t_set q4 hap hk _⟩ (fun j _ => ?_)⟩
        rw [vp_updV_set (by rw [List.length_map]; exact hlen), List.map_set]
      rcases hfin with hfin | ⟨hfin, hin2, hdecl⟩
      · unfold u_lay at hlay
        rw [if_neg (by rw [hfin]; decide)] at hlay
        have h6 := u_store hfc hkC hkind hlay hi (hty _ hk) hn hfit
        exact W.putK hx hb (f := fd) ⟨hown, hlink, ⟨_, _, _, hsame _ hi⟩, hst⟩ (by rw [q2]; exact h6) q1 q3 (by rw [hsl]; exact k2_hasslot (q4 _ hk)) rfl rfl hd key
      · unfold u_lay at hlay
        rw [if_pos hfin] at hlay
        have hcf : m.cls = cf := by
          obtain ⟨_, _, c', _, _, _, -, -, hf', -, -, -, hown2, -⟩ := Cond.laysFinal_spec hlay
          have e1 : c' = cf := by have := hi.symm.trans hf'; simp at this; exact this.1.symm
          rw [hdecl] at hown2
          rw [← e1]; exact Option.some.inj (hown.symm.trans hown2)
        have h6 := u_fits hfc hkC hkind (Or.inr hlay) hi (hty _ hk) hn hfit
        exact W.putFinK hx hb hown hlink (hsame _ hi) hst hcf hin2 (by rw [q2]; exact h6) q1 q3 (by rw [hsl]; exact k2_hasslot (q4 _ hk)) rfl rfl hd key
    · cases h
  · cases h
/-- class number ci can be made by the entry idx of own's pool -/
def lm_nw (own : String) (args : Array Value) (s : State) (cl : List vw_C) (idx ci : Nat) (fs : List Value) : Prop := ∃ (C : String) (T : u_T) (N : Nat) (ty : Nat → FieldType), cl[ci]? = some (C, T, N) ∧ (∀ w ∈ u_ws C T N, w.before args s = true) ∧ (∀ k, k < N → parseFieldDescriptor (T k).2.2.1 = some (ty k)) ∧ (Cond.classLink own idx C).before args s = true ∧ (Cond.instantiable C N).before args s = true ∧ (Cond.initialized C).before args s = true ∧ fs.length = N ∧ (∀ j, j < N → defaultValue (ty j) = vp_V fs j) ∧ ∀ ad, fs.map (lm_v ad) = fs
theorem ls_new (hx : p.tables.exec = Jvm.exec) (hb : c.code = cc) (hown : s.vm.findClass own = some m.cls) (hG : lm_G D cl tc ad sc b s) {idx ci q : Nat} {fs : List Value} (hn : lm_nw own args s cl idx ci fs) (h : lm_push (.inr (.inr (.inr (ci, fs)))) fs.length σ = some (.ok q, σ')) (hd : decode cc pc = .ok (.new idx, 3)) (k : lm_Sim p l e R s m args below meth c D cl tc ad b nL Q (pc + 3) (lv) (.ref q :: st) σ') : lm_Sim p l e R s m args below meth c D cl tc ad b nL Q (pc) (lv) (st) σ := by
  unfold lm_push at h
  split at h
  · rename_i hr
    cases h
    obtain ⟨hl0, hcs, hss⟩ := hr
    obtain ⟨C, T, N, ty, hc, hts, hty, hcl, hinst, hini, hlen, hdf, hmap⟩ := hn
    intro ls H locs cells slots hl hQ hcc hsl
    have hKn := hG.2.2.2.1.1 ci _ hc
    refine W.newcK hx hb hown hcl hinst hini rfl hd (by omega) (by omega) hKn.2.1 rfl fun H1 kC hkC e1 z1 o1 => ?_
    have k9 := k ls H1 locs (cells + 1) (slots + N) hl (lm_Q_push hQ ⟨_, hc, by rw [hmap]; exact (u_born ty hts (fun _ z => z) hKn hkC e1 hty).to hdf⟩ z1 o1 hl0 (lm_okC_other (fun _ _ z => by cases z))) (by show cells + 1 + (σ.2.1 - 1) ≤ _; omega) (by show slots + N + (σ.2.2 - fs.length) ≤ _; omega)
    have e9 : ad σ.1.length = H.size := by rw [hG.1 _ (by omega), hQ.2.1]
    rw [List.map_cons, show lm_v ad (.ref σ.1.length) = .ref (ad σ.1.length) from rfl, e9] at k9
    exact k9
  · cases h
theorem ls_newa (hx : p.tables.exec = Jvm.exec) (hb : c.code = cc) (hG : lm_G D cl tc ad sc b s) {t : ArrayType} {n : Int32} {q : Nat} (ha : (Cond.arrayClass (newarray.typeOf t)).before args s = true) (h : lm_newa t n σ = some (.ok q, σ')) (hd : decode cc pc = .ok (.newarray t, 2)) (k : lm_Sim p l e R s m args below meth c D cl tc ad b nL Q (pc + 2) (lv) (.ref q :: st) σ') : lm_Sim p l e R s m args below meth c D cl tc ad b nL Q (pc) (lv) (.int n :: st) σ := by
  unfold lm_newa at h
  split at h
  · rename_i hn
    split at h
    · unfold lm_push at h
      split at h
      · rename_i hr
        cases h
        obtain ⟨hl0, hcs, hss⟩ := hr
        intro ls H locs cells slots hl hQ hcc hsl
        refine va_newaK hx hb (atype := .int) ha rfl hd rfl hn.1 rfl (by show n.toNatClampNeg * 4 ≤ _; omega) (by omega) (by omega) rfl fun H1 cA e1 z1 o1 hAr hNm => ?_
        have ec : cA = tc 0 := Option.some.inj (hNm.symm.trans (hG.2.2.2.1.2 0 _ rfl).2)
        have hat : va_at D cl (H.size, lm_e tc ad (.inl (0, List.replicate n.toNatClampNeg 0))) H1 := by
          show H1[H.size]? = some (arrV (tc 0) (List.replicate n.toNatClampNeg (0 : Int32)).length (fun j => Value.int ((List.replicate n.toNatClampNeg (0 : Int32)).getD j 0)))
          rw [e1, ec, List.length_replicate]
          congr 2
          funext j
          show Value.int 0 = Value.int ((List.replicate n.toNatClampNeg 0).getD j 0)
          rw [List.getD_eq_getElem?_getD, List.getElem?_replicate]
          split <;> rfl
        have k9 := k ls H1 locs (cells + 1) (slots + n.toNatClampNeg) hl (lm_Q_push hQ hat z1 o1 hl0 (lm_okC_int (by decide))) (by show cells + 1 + (σ.2.1 - 1) ≤ _; omega) (by show slots + n.toNatClampNeg + (σ.2.2 - n.toNatClampNeg) ≤ _; omega)
        have e9 : ad σ.1.length = H.size := by rw [hG.1 _ (by omega), hQ.2.1]
        rw [List.map_cons, show lm_v ad (.ref σ.1.length) = .ref (ad σ.1.length) from rfl, e9] at k9
        exact k9
      · cases h
    · unfold lm_push at h
      split at h
      · rename_i hr
        cases h
        obtain ⟨hl0, hcs, hss⟩ := hr
        intro ls H locs cells slots hl hQ hcc hsl
        refine va_newaK hx hb (atype := .byte) ha rfl hd rfl hn.1 rfl (by show n.toNatClampNeg * 1 ≤ _; omega) (by omega) (by omega) rfl fun H1 cA e1 z1 o1 hAr hNm => ?_
        have ec : cA = tc 1 := Option.some.inj (hNm.symm.trans (hG.2.2.2.1.2 1 _ rfl).2)
        have hat : va_at D cl (H.size, lm_e tc ad (.inl (1, List.replicate n.toNatClampNeg 0))) H1 := by
          show H1[H.size]? = some (arrV (tc 1) (List.replicate n.toNatClampNeg (0 : Int32)).length (fun j => Value.int ((List.replicate n.toNatClampNeg (0 : Int32)).getD j 0)))
          rw [e1, ec, List.length_replicate]
          congr 2
          funext j
          show Value.int 0 = Value.int ((List.replicate n.toNatClampNeg 0).getD j 0)
          rw [List.getD_eq_getElem?_getD, List.getElem?_replicate]
          split <;> rfl
        have k9 := k ls H1 locs (cells + 1) (slots + n.toNatClampNeg) hl (lm_Q_push hQ hat z1 o1 hl0 (fun ys ey y hy => by cases ey; rw [List.eq_of_mem_replicate hy]; rfl)) (by show cells + 1 + (σ.2.1 - 1) ≤ _; omega) (by show slots + n.toNatClampNeg + (σ.2.2 - n.toNatClampNeg) ≤ _; omega)
        have e9 : ad σ.1.length = H.size := by rw [hG.1 _ (by omega), hQ.2.1]
        rw [List.map_cons, show lm_v ad (.ref σ.1.length) = .ref (ad σ.1.length) from rfl, e9] at k9
        exact k9
      · cases h
    · unfold lm_push at h
      split at h
      · rename_i hr
        cases h
        obtain ⟨hl0, hcs, hss⟩ := hr
        intro ls H locs cells slots hl hQ hcc hsl
        refine va_newaK hx hb (atype := .boolean) ha rfl hd rfl hn.1 rfl (by show n.toNatClampNeg * 1 ≤ _; omega) (by omega) (by omega) rfl fun H1 cA e1 z1 o1 hAr hNm => ?_
        have ec : cA = tc 2 := Option.some.inj (hNm.symm.trans (hG.2.2.2.1.2 2 _ rfl).2)
        have hat : va_at D cl (H.size, lm_e tc ad (.inl (2, List.replicate n.toNatClampNeg 0))) H1 := by
          show H1[H.size]? = some (arrV (tc 2) (List.replicate n.toNatClampNeg (0 : Int32)).length (fun j => Value.int ((List.replicate n.toNatClampNeg (0 : Int32)).getD j 0)))
          rw [e1, ec, List.length_replicate]
          congr 2
          funext j
          show Value.int 0 = Value.int ((List.replicate n.toNatClampNeg 0).getD j 0)
          rw [List.getD_eq_getElem?_getD, List.getElem?_replicate]
          split <;> rfl
        have k9 := k ls H1 locs (cells + 1) (slots + n.toNatClampNeg) hl (lm_Q_push hQ hat z1 o1 hl0 (lm_okC_int (by decide))) (by show cells + 1 + (σ.2.1 - 1) ≤ _; omega) (by show slots + n.toNatClampNeg + (σ.2.2 - n.toNatClampNeg) ≤ _; omega)
        have e9 : ad σ.1.length = H.size := by rw [hG.1 _ (by omega), hQ.2.1]
        rw [List.map_cons, show lm_v ad (.ref σ.1.length) = .ref (ad σ.1.length) from rfl, e9] at k9
        exact k9
      · cases h
    · unfold lm_push at h
      split at h
      · rename_i hr
        cases h
        obtain ⟨hl0, hcs, hss⟩ := hr
        intro ls H locs cells slots hl hQ hcc hsl
        refine va_newaK hx hb (atype := .long) ha rfl hd rfl hn.1 rfl (by show n.toNatClampNeg * 8 ≤ _; omega) (by omega) (by omega) rfl fun H1 cA e1 z1 o1 hAr hNm => ?_
        have ec : cA = tc 7 := Option.some.inj (hNm.symm.trans (hG.2.2.2.1.2 7 _ rfl).2)
        have hat : va_at D cl (H.size, lm_e tc ad (.inr (.inl (List.replicate n.toNatClampNeg 0)))) H1 := by
          show H1[H.size]? = some (arrV (tc 7) (List.replicate n.toNatClampNeg (0 : Int64)).length (fun j => Value.long ((List.replicate n.toNatClampNeg (0 : Int64)).getD j 0)))
          rw [e1, ec, List.length_replicate]
          congr 2
          funext j
          show Value.long 0 = Value.long ((List.replicate n.toNatClampNeg 0).getD j 0)
          rw [List.getD_eq_getElem?_getD, List.getElem?_replicate]
          split <;> rfl
        have k9 := k ls H1 locs (cells + 1) (slots + n.toNatClampNeg) hl (lm_Q_push hQ hat z1 o1 hl0 (lm_okC_other (fun _ _ z => by cases z))) (by show cells + 1 + (σ.2.1 - 1) ≤ _; omega) (by show slots + n.toNatClampNeg + (σ.2.2 - n.toNatClampNeg) ≤ _; omega)
        have e9 : ad σ.1.length = H.size := by rw [hG.1 _ (by omega), hQ.2.1]
        rw [List.map_cons, show lm_v ad (.ref σ.1.length) = .ref (ad σ.1.length) from rfl, e9] at k9
        exact k9
      · cases h
    · cases h
  · cases h
theorem ls_newr (hx : p.tables.exec = Jvm.exec) (hb : c.code = cc) (hown : s.vm.findClass own = some m.cls) (hG : lm_G D cl tc ad sc b s) {idx t : Nat} {n : Int32} {q : Nat} (hcl : (Cond.classLink own idx "LatticeSuite$Bytes").before args s = true) (hov : (Cond.arrayOver (.object "LatticeSuite$Bytes")).before args s = true) (h : lm_newr t n σ = some (.ok q, σ')) (hd : decode cc pc = .ok (.anewarray idx, 3)) (k : lm_Sim p l e R s m args below meth c D cl tc ad b nL Q (pc + 3) (lv) (.ref q :: st) σ') : lm_Sim p l e R s m args below meth c D cl tc ad b nL Q (pc) (lv) (.int n :: st) σ := by
  unfold lm_newr at h
  split at h
  · rename_i hn
    unfold lm_push at h
    split at h
    · rename_i hr
      cases h
      obtain ⟨hn0, hn1, rfl⟩ := hn
      obtain ⟨hl0, hcs, hss⟩ := hr
      intro ls H locs cells slots hl hQ hcc hsl
      refine W.anew hx hb hown hcl hov rfl hd rfl hn0 (by omega) (by omega) (by omega) fun cA kA comp f1 f2 f3 f4 => ?_
      have ec : cA = tc 6 := by
        obtain ⟨kA', comp', -, -, -, g4⟩ := (hG.2.2.2.1.2 6 _ rfl).2
        exact Option.some.inj (f1.symm.trans g4)
      generalize hH1 : H.push ({ cls := cA, slots := Array.replicate n.toNatClampNeg .null, vm := .none } : Cell) = H1
      have z1 : H1.size = H.size + 1 := by rw [← hH1, Array.size_push]
      have e1 : H1[H.size]? = some (arrV cA n.toNatClampNeg (fun _ => .null)) := by rw [← hH1, Array.getElem?_push_size, ← arrV_new]
      have o1 : ∀ x, x < H.size → H1[x]? = H[x]? := fun x hx => by rw [← hH1, Array.getElem?_push, if_neg (Nat.ne_of_lt hx)]
      have hat : va_at D cl (H.size, lm_e tc ad (.inr (.inr (.inl (6, List.replicate n.toNatClampNeg none))))) H1 := by
        show H1[H.size]? = some (arrV (tc 6) (List.replicate n.toNatClampNeg (none : Option Nat)).length (fun j => va_rf (((List.replicate n.toNatClampNeg (none : Option Nat)).getD j none).map ad)))
        rw [e1, ec, List.length_replicate]
        congr 2
        funext j
        rw [List.getD_eq_getElem?_getD, List.getElem?_replicate]
        split <;> rfl
      have k9 := k ls H1 locs (cells + 1) (slots + n.toNatClampNeg) hl (lm_Q_push hQ hat z1 o1 hl0 (lm_okC_other (fun _ _ z => by cases z))) (by show cells + 1 + (σ.2.1 - 1) ≤ _; omega) (by show slots + n.toNatClampNeg + (σ.2.2 - n.toNatClampNeg) ≤ _; omega)
      have e9 : ad σ.1.length = H.size := by rw [hG.1 _ (by omega), hQ.2.1]
      rw [List.map_cons, show lm_v ad (.ref σ.1.length) = .ref (ad σ.1.length) from rfl, e9] at k9
      exact k9
    · cases h
  · cases h
theorem ls_aast (hx : p.tables.exec = Jvm.exec) (hb : c.code = cc) (hG : lm_G D cl tc ad sc b s) (hcl : ∃ T N, cl[lm_kBytes]? = some ("LatticeSuite$Bytes", T, N)) {q r : Nat} {i : Int32} (h : lm_aast q i r σ = some (.ok (), σ')) (hd : decode cc pc = .ok (.aastore, 1)) (k : lm_Sim p l e R s m args below meth c D cl tc ad b nL Q (pc + 1) (lv) (st) σ') : lm_Sim p l e R s m args below meth c D cl tc ad b nL Q (pc) (lv) (.ref r :: .int i :: .ref q :: st) σ := by
  unfold lm_aast at h
  split at h
  · rename_i hq
    split at h
    · rename_i u xs ci fs hcell hcr
      split at h
      · rename_i hin
        cases h
        obtain ⟨rfl, rfl, h1, h2⟩ := hin
        obtain ⟨T, N, hcT⟩ := hcl
        intro ls H locs cells slots hl hQ hc hs
        show W _ _ _ _ _ _ _ _ _ _ _ _ _ _ _ (F0 m pc ls (.ref (ad r) :: .int i :: .ref (ad q) :: st.map (lm_v ad)))
        rw [hG.1 q hq.1, hG.1 r hq.2]
        obtain ⟨r9, hr9, cellV, g1, g2, g3, -⟩ := hQ.1 r _ (lm_ws_get hcr)
        have hr9' : r9 = ("LatticeSuite$Bytes", T, N) := Option.some.inj (hr9.symm.trans hcT)
        subst hr9'
        have hcls := (hG.2.2.2.1.1 _ _ hcT).2
        obtain ⟨kA, comp, f2, f3, f4, -⟩ := (hG.2.2.2.1.2 6 _ rfl).2
        have ecomp : D.1 lm_kBytes = comp := Option.some.inj (hcls.1.symm.trans f4)
        obtain ⟨-, kV, hkV, hkind⟩ := id hcls
        have hc0 : H[b + q]? = some (arrV (tc 6) xs.length (fun j => va_rf ((xs.getD j none).map ad))) := (hQ.1 q _ (lm_ws_get hcell))
        refine W.aast (k := kA) (kv := kV) (kcomp := kV) (comp := comp) (t := .object "LatticeSuite$Bytes") hx hb hc0 (fun _ z => by cases z) (fun z => by cases z) f2 f3 rfl (by rw [← ecomp]; exact hkV) (by rw [arrV_size]; exact ⟨h1, h2⟩) g1 (fun _ z => by rw [g3] at z; cases z) (by rw [g2]; exact hkV) (by rw [g2, ← ecomp]; exact va_assign hcls) rfl rfl hd fun H1 e1 z1 oq => ?_
        refine k ls H1 _ cells slots hl (lm_Q_wr hQ hcell ?_ z1 oq (lm_okC_other (fun _ _ z => by cases z)) (fun y hy => by rw [List.mem_singleton.mp hy])) hc hs
        show H1[b + q]? = some (arrV (tc 6) (xs.set i.toNatClampNeg (some r)).length (fun j => va_rf (((xs.set i.toNatClampNeg (some r)).getD j none).map ad)))
        rw [e1, arrV_store, List.length_set]
        congr 2
        funext j
        rw [lm_getD_set h2]
        unfold updV
        by_cases ej : j = i.toNatClampNeg
        · rw [if_pos ej, if_pos ej]
          show _ = Value.ref (ad r)
          rw [hG.1 r hq.2]
        · rw [if_neg ej, if_neg ej]
      · cases h
    · cases h
  · cases h
end LMI
