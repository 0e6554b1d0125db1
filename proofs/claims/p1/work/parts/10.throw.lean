/-! ===== THE METHOD SEEN FROM A LATER HEAP: the same invocation, as if it began with the heap of now ===== -/
def lm_reb (s T : State) : State := { s with heap := T.heap, slotsUsed := T.slotsUsed }
section LMR
variable {p : Program} {l : Launch} {e : Env} {R : Room} {s : State} {m : MethodId} {args : Array Value} {below : List Frame} {meth : Method} {c : Code} {T : State} {locs : List Loc} {cells slots : Nat}
theorem lm_rebase (X : Stand p l e R s m args below meth c T locs cells slots) (hc : cells ≤ R.cells) (hs : slots ≤ R.slots) : Stand p l e ({ R with cells := R.cells - cells, slots := R.slots - slots } : Room) (lm_reb s T) m args below meth c T [] 0 0 := by
  have hroom := X.room
  have hbook := X.book
  have hz := X.heapSize
  have hu := X.used
  refine ⟨X.admits, X.cas, X.clock, X.frames, ?_, X.hears, X.method, X.code, X.here, X.tail, X.warmed, X.limits, X.bytes, ?_⟩
  · simp only [State.hasRoom, Bool.and_eq_true, decide_eq_true_eq] at hroom ⊢
    obtain ⟨⟨⟨⟨h1, h2⟩, h3⟩, h4⟩, h5⟩ := hroom
    refine ⟨⟨⟨⟨h1, h2⟩, ?_⟩, ?_⟩, hbook⟩
    · show T.heap.size + (R.cells - cells) ≤ _
      omega
    · show T.slotsUsed + (R.slots - slots) ≤ _
      omega
  · have h1 := X.same.1
    refine ⟨?_, Nat.le_refl _, Nat.le_refl _, ?_, ?_, fun a c9 h9 => ⟨c9, h9, rfl, rfl, fun _ _ => rfl⟩⟩
    · exact h1
    · show T.slotsUsed = T.slotsUsed + ((T.heap.toList.drop T.heap.size).map (·.slots.size)).sum
      rw [List.drop_of_length_le (by rw [Array.length_toList]; exact Nat.le_refl _)]
      rfl
    · show ((T.heap.toList.drop T.heap.size).map (·.slots.size)).sum ≤ 0
      rw [List.drop_of_length_le (by rw [Array.length_toList]; exact Nat.le_refl _)]
      exact Nat.le_refl _
end LMR
/-! ===== throw new X("..") ===== -/
theorem lm_ldcw {p : Program} {l : Launch} {e : Env} {R : Room} {s : State} {m : MethodId} {args : Array Value} {below : List Frame} {meth : Method} {c : Code} {T : State} {locs : List Loc} {cells slots : Nat} (X : Stand p l e R s m args below meth c T locs cells slots) (hexec : p.tables.exec = Jvm.exec) {own text : String} {index : Nat} {a : Addr} (hown : s.vm.findClass own = some m.cls)
    {A : Array Value} (hconst : (Cond.stringRef own index text).before A s = true) (hev : (Term.string own index).eval A s none [] s = some (.ref a)) {g : JFrame} (hg : g.method = m) (hdg : decode c.code g.pc = .ok (.ldc_w index, 3)) :
    ∀ target, Steps p.tables e below (T.setTop { g with pc := g.pc + 3, stack := .ref a :: g.stack }) target → Steps p.tables e below (T.setTop g) target := by
  obtain ⟨k, cf, i, a', hk, hcf, hcp, -, hr, hev'⟩ := Cond.stringRef_spec hown hconst
  cases hev.symm.trans hev'
  obtain ⟨k', hk', he⟩ := X.warmed.alike.2.2 _ _ hk
  have hr' : k'.resolved[index]? = some (some (.string a)) := by
    rcases X.warmed.entry hk hk' index with h | ⟨h, -⟩
    · rw [h]; exact hr
    · rw [hr] at h; cases h
  intro target hrest
  subst hg
  jvm_step X.here [hexec, hdg, ldc_w.wp_string (e := e) (s := T) (f := g) X.here.top hk' (by rw [he]; exact hcf) hcp hr']
  exact hrest
theorem lm_isRef {args : Array Value} {U : State} {C n d : String} {A : Nat → Prop} (h : va_Zq C n d A U U.heap) : (Cond.isRef (.static C n d)).before args U = true := by
  rcases h with ⟨cf, kf, fi, f, a, cell, h1, h2, h3, h4, h5, h6, h7, -⟩ | ⟨t, cf, kf, fi, f, a, cell, h1, h2, h3, h4, h5, h6, h7, -⟩
  · simp [Cond.before, Cond.holds, Cond.value, Term.eval, State.fieldNamed?, h1, h2, h4, h5, h6, h7]
  · simp [Cond.before, Cond.holds, Cond.value, Term.eval, State.fieldNamed?, h1, h2, h4, h5, h6, h7]
theorem lm_same_cell {H H1 : Heap} (h : ∀ a c, H[a]? = some c → ∃ c', H1[a]? = some c' ∧ c' = { c with slots := c'.slots } ∧ c'.slots.size = c.slots.size ∧ ∀ i, (⟨a, i⟩ : Loc) ∉ ([] : List Loc) → c'.slots[i]? = c.slots[i]?) : ∀ q, q < H.size → H1[q]? = H[q]? := by
  intro q hq
  have h0 : H[q]? = some H[q] := Array.getElem?_eq_getElem hq
  obtain ⟨c', h1, h2, h3, h4⟩ := h q _ h0
  rw [h1, h0]
  congr 1
  rw [h2]
  have e : c'.slots = H[q].slots := Array.ext_getElem? (fun i => h4 i (by simp))
  rw [e]
section LMT
variable {p : Program} {l : Launch} {e : Env} {R : Room} {s : State} {m : MethodId} {args : Array Value} {below : List Frame} {meth : Method} {c : Code} {D : va_G} {cl : List vw_C} {tc : Nat → ClassId} {ad : Nat → Nat} {sc : lm_H} {b nL : Nat} {Q : State → Prop} {cc : ByteArray} {own : String}
/-- at the five instructions of a throw -/
def lm_okT (own : String) (args : Array Value) (s : State) (cl : List vw_C) (c : Code) (cc : ByteArray) (pc k : Nat) : Prop :=
  ∃ (cls : String) (T : u_T) (names : List String) (idx ic ix wl : Nat) (tx : String), cl[k]? = some (cls, T, 0) ∧ decode cc pc = .ok (.new idx, 3) ∧ decode cc (pc + 3) = .ok (.dup, 1) ∧ ((decode cc (pc + 4) = .ok (.ldc ix, 2) ∧ wl = 2) ∨ (decode cc (pc + 4) = .ok (.ldc_w ix, 3) ∧ wl = 3)) ∧ decode cc (pc + 4 + wl) = .ok (.invokespecial ic, 3) ∧ decode cc (pc + 4 + wl + 3) = .ok (.athrow, 1) ∧
    Jvm.Bundle.fit cls = true ∧ (∀ n ∈ names, Jvm.Bundle.fit n = true) ∧ names.length ≤ 3 ∧ (∀ a ∈ Jvm.Bundle.ownAtoms own ic cls names, (goodWord a = true ∧ a.before args s = true) ∨ (a ∈ lm_wx ∧ a.onTables = true) ∨ a = .isRef (.static "java/lang/Throwable" "UNASSIGNED_STACK" "[Ljava/lang/StackTraceElement;") ∨ a = .isRef (.static "java/lang/Throwable" "SUPPRESSED_SENTINEL" "Ljava/util/List;") ∨ a = .laysStatic "java/lang/Throwable" "UNASSIGNED_STACK" "[Ljava/lang/StackTraceElement;" ∨ a = .laysStatic "java/lang/Throwable" "SUPPRESSED_SENTINEL" "Ljava/util/List;") ∧
    (Cond.classLink own idx cls).before args s = true ∧ (Cond.instantiable cls 6).before args s = true ∧ (Cond.initialized cls).before args s = true ∧ (own, ix, tx) ∈ lm_strs ∧ ∀ x ∈ c.exceptionTable.toList, covers x (pc + 4 + wl + 3) = false
set_option maxHeartbeats 1000000 in
theorem lm_simThrow (hx : p.tables.exec = Jvm.exec) (hb : c.code = cc) (hml : c.maxLocals = nL) (hown : s.vm.findClass own = some m.cls) (hG : lm_G D cl tc ad sc b s) (htr : e.platform.stackTraces = false) (hlocks : meth.locks = false) (hRf : 20 ≤ R.frames) (hRl : 200 ≤ R.locals)
    {k pc : Nat} (hok : lm_okT own args s cl c cc pc k) {lv : lm_L} {st : List Value} {σ : lm_S} {r : Except Nat lm_R × lm_S} (hwt : lm_wt st ≤ 20) (h : lm_thr k σ = some r)
    (kthr : ∀ q σ', r = (.error q, σ') → ∀ (U : State) (locs : List Loc) (cells slots : Nat), U.status = .running → Ended U below (.threw (ad q)) → s.WarmedH U.vm → lm_Q D cl tc ad b s σ'.1 U.heap locs → s.sameButNew ({ U with vm := s.vm } : State) locs cells slots → cells + σ'.2.1 ≤ R.cells → slots + σ'.2.2 ≤ R.slots → Q U) : lm_Sim p l e R s m args below meth c D cl tc ad b nL Q (pc) (lv) (st) σ := by
  unfold lm_thr at h
  split at h
  · rename_i hr
    cases h
    obtain ⟨hl0, hcs, hss⟩ := hr
    obtain ⟨cls, Tt, names, idx, ic, ix, wl, tx, hcl, d0, d3, d4, d6, d9, hfc, hfn, hnl, hat, hclk, hins, hini, hstr, hout⟩ := hok
    intro ls H locs cells slots hl hQ hc hs T hT X
    have X0 := lm_rebase X (by omega) (by omega)
    have hwd : ∀ w : Cond, goodWord w = true → w.before args s = true → w.before args (lm_reb s T) = true := fun w h1 h2 => word_at (U := lm_reb s T) (State.WarmedH.refl s) (good_of_word h1) h2
    have hold0 : ∀ a : Nat, a < s.heap.size → ¬ b ≤ a → (lm_reb s T).heap[a]? = s.heap[a]? := fun a h1 h2 => by
      show T.heap[a]? = _
      rw [hT]
      exact hQ.2.2.1.2.1 a h1 h2
    have hE : lm_Ex ad b (lm_reb s T) := hG.2.2.2.2.2.moved (State.WarmedH.refl s) hold0
    have hKn := hG.2.2.2.1.1 k _ hcl
    have hfcx : (lm_reb s T).vm.findClass cls = some (D.1 k) := hKn.2.1
    obtain ⟨sa, hsa⟩ := hE.2.1 _ hstr
    have hat' : ∀ a ∈ Jvm.Bundle.ownAtoms own ic cls names, a.before args (lm_reb s T) = true := fun a ha => by
      rcases hat a ha with ⟨h1, h2⟩ | ⟨h3, h4⟩ | rfl | rfl | rfl | rfl
      · exact hwd a h1 h2
      · exact (hE.2.2.2.2.1 _ h3).use h4
      · exact lm_isRef hE.2.2.1.1
      · exact lm_isRef hE.2.2.2.1.1
      · exact hE.2.2.1.2
      · exact hE.2.2.2.1.2
    have hk1 : (Cond.classLink own idx cls).before args (lm_reb s T) = true := hwd (.classLink own idx cls) rfl hclk
    have hk2 : (Cond.instantiable cls 6).before args (lm_reb s T) = true := hwd (.instantiable cls 6) rfl hins
    have hk3 : (Cond.initialized cls).before args (lm_reb s T) = true := hwd (.initialized cls) rfl hini
    have hown0 : (lm_reb s T).vm.findClass own = some m.cls := hown
    have key : W p l e ({ R with cells := R.cells - cells, slots := R.slots - slots } : Room) (lm_reb s T) m args below meth c T.heap [] 0 0 Q (F0 m pc ls (st.map (lm_v ad))) := by
      refine W.newcK (n := 6) (g := F0 m pc ls (st.map (lm_v ad))) (H := T.heap) (h := T.heap.size) (s := lm_reb s T) (cC := D.1 k) hx hb (own := own) hown0 hk1 hk2 hk3 rfl d0 (by show 0 + 1 ≤ R.cells - cells; omega) (by show 0 + 6 ≤ R.slots - slots; omega) hfcx rfl fun H1 kC hkC e1 z1 o1 => ?_
      refine lv_dup hx hb d3 rfl ?_
      intro T2 hT2 X2
      have st2 : ∀ target, Steps p.tables e below (T2.setTop (F0 m (pc + 4 + wl) ls (.ref sa :: .ref T.heap.size :: .ref T.heap.size :: st.map (lm_v ad)))) target → Steps p.tables e below (T2.setTop (F0 m (pc + 3 + 1) ls (.ref T.heap.size :: .ref T.heap.size :: st.map (lm_v ad)))) target := by
        rcases d4 with ⟨d4, rfl⟩ | ⟨d4, rfl⟩
        · exact X2.ldcString hx (own := own) (index := ix) (a := sa) hown0 hsa.1 hsa.2 (g := F0 m (pc + 3 + 1) ls (.ref T.heap.size :: .ref T.heap.size :: st.map (lm_v ad))) rfl (by rw [hb]; exact d4)
        · exact lm_ldcw X2 hx (own := own) (index := ix) (a := sa) hown0 hsa.1 hsa.2 (g := F0 m (pc + 3 + 1) ls (.ref T.heap.size :: .ref T.heap.size :: st.map (lm_v ad))) rfl (by rw [hb]; exact d4)
      obtain ⟨U, hsteps, hrun, hend, hwarm, hsame, ce, hce, hcell⟩ := X2.ctorThrowS hx htr (own := own) (cls := cls) (names := names) (ic := ic) hown0 hfc hfn hat' (fun x hx => by cases hx) hfcx hkC (a := T.heap.size) (by rw [hT2]; exact e1) (Nat.le_refl _) (msg := .ref sa) rfl
        (g := F0 m (pc + 4 + wl) ls (.ref sa :: .ref T.heap.size :: .ref T.heap.size :: st.map (lm_v ad))) rfl (hl.1.trans hml.symm) rfl rfl (rest := st.map (lm_v ad)) rfl (by rw [hb]; exact d6) (by rw [hb]; exact d9) hout (by show names.length + 3 < R.frames; omega) (by
          show 2 * 0 + ((Value.ref T.heap.size :: st.map (lm_v ad)).map fun v => v.category).sum + (13 * (names.length + 1) + 42) ≤ R.locals
          rw [List.map_cons, List.sum_cons, lm_cat_map]
          have h9 : (st.map fun v => v.category).sum ≤ 20 := hwt
          show 2 * 0 + (1 + _) + _ ≤ _
          omega) hlocks
      refine ⟨U, st2 U hsteps, ?_⟩
      have hsz : T.heap.size = b + σ.1.length := by rw [hT]; exact hQ.2.1
      have e9 : ad σ.1.length = T.heap.size := by rw [hG.1 _ (by omega), hsz]
      have hTQ : lm_Q D cl tc ad b s σ.1 T.heap locs := by rw [hT]; exact hQ
      obtain ⟨s1, s2, s3, s4, s5, s6⟩ := hsame
      have s2' : T.heap.size ≤ U.heap.size := s2
      have s3' : U.heap.size ≤ T.heap.size + 1 := s3
      have hlt : T.heap.size < U.heap.size := (Array.getElem?_eq_some_iff.mp hce).1
      have hoU : ∀ q, q < T.heap.size → U.heap[q]? = T.heap[q]? := lm_same_cell s6
      refine kthr _ _ rfl U locs (cells + 1) (slots + 6) hrun (by rw [e9]; exact hend) hwarm (lm_Q_push hTQ ?_ (by omega) hoU hl0 (lm_okC_other (fun _ _ z => by cases z))) ?_ (by show cells + 1 + (σ.2.1 - 1) ≤ _; omega) (by show slots + 6 + (σ.2.2 - 6) ≤ _; omega)
      · refine ⟨_, hcl, ce, hce, ?_, hcell.vm, fun j hj => absurd hj (Nat.not_lt_zero j)⟩
        exact Option.some.inj (hcell.cls.symm.trans hfcx)
      · have h1 : (T.setVm s.vm).sameButNew ({ U with vm := s.vm } : State) [] 1 6 := by
          refine ⟨?_, s2, s3, s4, s5, s6⟩
          have hs1 : ({ U with vm := s.vm } : State) = { s.setFrames U.frames with heap := U.heap, slotsUsed := U.slotsUsed } := s1
          have hs2 : T.setVm s.vm = { s.setFrames T.frames with heap := T.heap, slotsUsed := T.slotsUsed } := X.same.1
          have hs3 : (T.setVm s.vm).setFrames U.frames = { s.setFrames U.frames with heap := T.heap, slotsUsed := T.slotsUsed } := by
            rw [hs2]
            show ({ ((s.setFrames T.frames).setFrames U.frames) with heap := T.heap, slotsUsed := T.slotsUsed } : State) = _
            rw [State.setFrames_setFrames]
          refine hs1.trans ?_
          show _ = ({ (T.setVm s.vm).setFrames U.frames with heap := U.heap, slotsUsed := U.slotsUsed } : State)
          rw [hs3]
        have h2 := X.same.trans h1
        rw [List.append_nil] at h2
        exact h2
    exact key T rfl X0
  · cases h
end LMT
