/-! ===== how a call links; how an exception leaves, or is caught ===== -/
def lm_cd (s : State) (y : MethodName) (maxL : Nat) : Prop := ∃ mk methY cY, s.methodNamed? y = some mk ∧ s.vm.method? mk = some methY ∧ methY.code = some cY ∧ cY.maxLocals = maxL ∧ parseMethodDescriptor y.desc = some methY.sig
theorem lm_cd.of_code {args : Array Value} {s : State} {y : MethodName} {bytes : ByteArray} {maxL : Nat} {ret : Option FieldType} (h : (Cond.code y bytes maxL ret).before args s = true) : lm_cd s y maxL := by
  obtain ⟨mk, hn⟩ := Cond.code_named h
  obtain ⟨meth, c, h1, h2, -, h4, -, -, -, h8⟩ := Cond.code_spec hn h
  exact ⟨mk, meth, c, hn, h1, h2, h4, h8⟩
theorem lm_cd.of_codeWith {args : Array Value} {s : State} {y : MethodName} {bytes : ByteArray} {maxL : Nat} {ret : Option FieldType} {hh : List (Nat × Nat × Nat × Nat)} (h : (Cond.codeWith y bytes maxL ret hh).before args s = true) : lm_cd s y maxL := by
  obtain ⟨mk, meth, c, hn, h1, h2, -, h4, -, -, -, h8⟩ := Cond.codeWith_spec h
  exact ⟨mk, meth, c, hn, h1, h2, h4, h8⟩
abbrev lm_noMH (n : String) : Prop := n ≠ "java/lang/invoke/MethodHandle" ∧ n ≠ "java/lang/invoke/VarHandle"
section LMK
variable {p : Program} {l : Launch} {e : Env} {R : Room} {s : State} {m : MethodId} {args : Array Value} {below : List Frame} {meth : Method} {c : Code} {D : va_G} {cl : List vw_C} {tc : Nat → ClassId} {ad : Nat → Nat} {sc : lm_H} {b nL : Nat} {Q : State → Prop} {cc : ByteArray} {own : String}
theorem lm_lkS (hx : p.tables.exec = Jvm.exec) (hb : c.code = cc) (hown : s.vm.findClass own = some m.cls) {y : MethodName} {maxL pc idx : Nat} {as rest : List Value} {h : lm_H} (hlink : (Cond.methodLink own idx y).before args s = true) (hstat : (Cond.static y).before args s = true) (hini : (Cond.initialized y.cls).before args s = true) (hcd : lm_cd s y maxL) (hy : lm_noMH y.cls) (hlen : ∀ sig, parseMethodDescriptor y.desc = some sig → as.length = sig.parameters.length) (hd : decode cc pc = .ok (.invokestatic idx, 3)) : lm_Lk p l e R s m args below meth c D cl tc ad b (y) (maxL) (pc) (as) (rest) (h) := by
  refine ⟨⟨_, by rw [hb]; exact hd⟩, fun T ls locs cells slots X hQ => ?_⟩
  obtain ⟨mk, methY, cY, hn, h1, h2, h3, h4⟩ := hcd
  have hstatic : methY.isStatic = true := Cond.static_spec hn h1 hstat
  obtain ⟨kP, hkP, -⟩ := className_of_methodNamed hn
  have hinitP : kP.init = .initialized := Cond.initialized_spec (findClass_of_methodNamed hn) hkP hini
  obtain ⟨vm₁, X₁, st⟩ := X.invokestatic hx hown hlink hn h1 hstatic hkP hinitP hy (g := F0 m pc ls ((as.reverse ++ rest).map (lm_v ad))) rfl (argsL := as.map (lm_v ad)) (rest := rest.map (lm_v ad)) (by rw [List.length_map]; exact hlen _ h4) (by show (as.reverse ++ rest).map (lm_v ad) = _; rw [List.map_append, List.map_reverse]) (by rw [hb]; exact hd)
  exact ⟨mk, vm₁, hn, ⟨methY, cY, h1, h2, h3⟩, X₁, st⟩
theorem lm_lkI (hx : p.tables.exec = Jvm.exec) (hb : c.code = cc) (hown : s.vm.findClass own = some m.cls) {y : MethodName} {bytes : ByteArray} {maxL pc idx : Nat} {q : Nat} {as rest : List Value} {h : lm_H} (hy1 : y.name = "<init>") (hlink : (Cond.methodLink own idx y).before args s = true ∨ ∃ host, (Cond.methodLinkNest own idx y host).before args s = true) (hinst : (Cond.instanceMethod y).before args s = true) (hcode : (Cond.code y bytes maxL none).before args s = true) (hy : lm_noMH y.cls) (hlen : ∀ sig, parseMethodDescriptor y.desc = some sig → as.length = sig.parameters.length) (hd : decode cc pc = .ok (.invokespecial idx, 3)) : lm_Lk p l e R s m args below meth c D cl tc ad b (y) (maxL) (pc) (.ref q :: as) (rest) (h) := by
  refine ⟨⟨_, by rw [hb]; exact hd⟩, fun T ls locs cells slots X hQ => ?_⟩
  have hpl : e.platform.magicAccessors = ({} : Platform).magicAccessors := by rw [X.admits.platform]
  have hst : (F0 m pc ls (((.ref q :: as).reverse ++ rest).map (lm_v ad))).stack = (as.map (lm_v ad)).reverse ++ .ref (ad q) :: rest.map (lm_v ad) := by
    show ((.ref q :: as).reverse ++ rest).map (lm_v ad) = _
    rw [List.reverse_cons, List.append_assoc, List.map_append, List.map_reverse]
    rfl
  have hlen' : ∀ sig, parseMethodDescriptor y.desc = some sig → (as.map (lm_v ad)).length = sig.parameters.length := fun sig h9 => by rw [List.length_map]; exact hlen sig h9
  rcases hlink with hlink | ⟨host, hlink⟩
  · obtain ⟨mk, methM, cM, kP, vm₁, hnamed, hmethM, hcodeM, -, hlocalsM, -, hkP, -, hW₁, st⟩ := Steps.initColdArgs (e := e) X.here hx X.warmed hpl hown hy1 hy hlink hinst hcode (f := F0 m pc ls (((.ref q :: as).reverse ++ rest).map (lm_v ad))) rfl hlen' hst (by rw [hb]; exact hd)
    exact ⟨mk, vm₁, hnamed, ⟨methM, cM, hmethM, hcodeM, hlocalsM⟩, X.noted hW₁, st⟩
  · obtain ⟨mk, methM, cM, kP, vm₁, hnamed, hmethM, hcodeM, -, hlocalsM, -, hkP, -, hW₁, st⟩ := Steps.initColdArgsNest (e := e) X.here hx X.warmed hpl hown hy1 hy hlink hinst hcode (f := F0 m pc ls (((.ref q :: as).reverse ++ rest).map (lm_v ad))) rfl hlen' hst (by rw [hb]; exact hd)
    exact ⟨mk, vm₁, hnamed, ⟨methM, cM, hmethM, hcodeM, hlocalsM⟩, X.noted hW₁, st⟩
/-- by the method that the entry names, or one above it -/
theorem lm_lkV (hx : p.tables.exec = Jvm.exec) (hb : c.code = cc) (hown : s.vm.findClass own = some m.cls) (hG : lm_G D cl tc ad sc b s) {x y : MethodName} {owner C : String} {T0 : u_T} {maxL pc idx ci N : Nat} {q : Nat} {fs as rest : List Value} {h : lm_H} (hq : q < lm_B) (hcell : h[q]? = some (.inr (.inr (.inr (ci, fs))))) (hcl : cl[ci]? = some (C, T0, N)) (hlink : (Cond.methodLink own idx x).before args s = true)
    (hkind : (x = y ∧ (Cond.instanceMethod y).before args s = true) ∨ ((Cond.sameMethod x.cls owner x.name x.desc).before args s = true ∧ lm_noMH owner ∧ ((Cond.declares ⟨owner, x.name, x.desc⟩).before args s = true ∨ va_Decl s ⟨owner, x.name, x.desc⟩))) (hsel : (Cond.selects C x y).before args s = true) (hinst : (Cond.instanceMethod y).before args s = true) (hcd : lm_cd s y maxL) (hx9 : lm_noMH x.cls) (hlen : ∀ sig, parseMethodDescriptor x.desc = some sig → as.length = sig.parameters.length) (hdy : x.desc = y.desc) (hd : decode cc pc = .ok (.invokevirtual idx, 3)) : lm_Lk p l e R s m args below meth c D cl tc ad b (y) (maxL) (pc) (.ref q :: as) (rest) (h) := by
  refine ⟨⟨_, by rw [hb]; exact hd⟩, fun T ls locs cells slots X hQ => ?_⟩
  have hst : (F0 m pc ls (((.ref q :: as).reverse ++ rest).map (lm_v ad))).stack = (as.map (lm_v ad)).reverse ++ .ref (ad q) :: rest.map (lm_v ad) := by
    show ((.ref q :: as).reverse ++ rest).map (lm_v ad) = _
    rw [List.reverse_cons, List.append_assoc, List.map_append, List.map_reverse]
    rfl
  have hat := hQ.1 q _ (lm_ws_get hcell)
  rw [← hG.1 q hq] at hat
  obtain ⟨r9, hr9, cellB, g1, g2, g3, -⟩ := hat
  have hr9' : r9 = (C, T0, N) := Option.some.inj (hr9.symm.trans hcl)
  subst hr9'
  have hcls : s.vm.findClass C = some cellB.cls := by rw [g2]; exact (hG.2.2.2.1.1 ci _ hcl).2.1
  obtain ⟨mk, methY, cY, hn, h1, h2, h3, h4⟩ := hcd
  obtain ⟨mk', methM, hnamed, hmethM, hstM, habM⟩ := Cond.instanceMethod_spec hinst
  cases hn.symm.trans hnamed
  cases h1.symm.trans hmethM
  obtain ⟨c2, r2, m2, q1, q2, q3, q4, kP, hkP, hkPi⟩ := Cond.selects_spec hsel
  cases hcls.symm.trans q1
  cases hn.symm.trans q3
  rcases hkind with ⟨rfl, -⟩ | ⟨hsame, howner, hdec⟩
  · cases (State.methodFound?_of_named hn hx9).symm.trans q2
    have hselP : selectMethod e.platform s.vm cellB.cls mk = .method mk := by rw [Launch.admits_selectMethod X.admits]; exact q4
    obtain ⟨vm₁, X₁, st⟩ := X.invokevirtual hx hown hlink hn h1 hstM hkP hkPi hx9 (a := ad q) (cell := cellB) g1 (fun z h9 => by rw [g3] at h9; cases h9) hselP h1 habM hkP hkPi (g := F0 m pc ls (((.ref q :: as).reverse ++ rest).map (lm_v ad))) rfl (argsL := as.map (lm_v ad)) (rest := rest.map (lm_v ad)) (by rw [List.length_map]; exact hlen _ h4) hst (by rw [hb]; exact hd)
    exact ⟨mk, vm₁, hn, ⟨methY, cY, h1, h2, h3⟩, X₁, st⟩
  · obtain ⟨r0, r, hn0, hrm, hstR, hsigR⟩ : ∃ r0 r, s.methodNamed? ⟨owner, x.name, x.desc⟩ = some r0 ∧ s.vm.method? r0 = some r ∧ r.isStatic = false ∧ parseMethodDescriptor x.desc = some r.sig := by
      rcases hdec with hdec | hdec
      · obtain ⟨r0, r, a1, a2, a3, a4⟩ := Cond.declares_spec hdec
        exact ⟨r0, r, a1, a2, a3, a4⟩
      · exact hdec
    obtain ⟨cn, ck, r1, hcn, hck, hni, hf, hn1⟩ := Cond.sameMethod_found hsame
    cases hn0.symm.trans hn1
    cases hf.symm.trans q2
    have hselP := q4
    rw [← Launch.admits_selectMethod X.admits] at hselP
    obtain ⟨vm₁, X₁, st⟩ := X.invokevirtualUp hx hown hlink hsame howner hn0 hrm hstR (a := ad q) (cell := cellB) g1 (fun z h9 => by rw [g3] at h9; cases h9) hselP h1 habM hkP hkPi (g := F0 m pc ls (((.ref q :: as).reverse ++ rest).map (lm_v ad))) rfl (argsL := as.map (lm_v ad)) (rest := rest.map (lm_v ad)) (by rw [List.length_map]; exact hlen _ hsigR) hst (by rw [hb]; exact hd)
    exact ⟨mk, vm₁, hn, ⟨methY, cY, h1, h2, h3⟩, X₁, st⟩
theorem lm_simLeave {pc : Nat} {lv : lm_L} {st : List Value} {σ : lm_S} {q : Nat} (hlocks : meth.locks = false) (hout : ∀ x ∈ c.exceptionTable.toList, covers x pc = false) (kthr : ∀ (U : State) (locs : List Loc) (cells slots : Nat), U.status = .running → Ended U below (.threw (ad q)) → s.WarmedH U.vm → lm_Q D cl tc ad b s σ.1 U.heap locs → s.sameButNew ({ U with vm := s.vm } : State) locs cells slots → cells + σ.2.1 ≤ R.cells → slots + σ.2.2 ≤ R.slots → Q U) : lm_SimT p l e R s m args below meth c D cl tc ad b nL Q (pc) (lv) (st) σ (q) := by
  intro ls H locs cells slots hl hQ hc hs T hT X
  obtain ⟨h1, h2, h3, h4, h5⟩ := X.leaveThrown (ad q) (g := F0 m pc ls (st.map (lm_v ad))) rfl rfl rfl hout hlocks
  exact ⟨_, h1, kthr _ locs cells slots h2 h3 h4 (by show lm_Q D cl tc ad b s σ.1 T.heap locs; rw [hT]; exact hQ) h5 hc hs⟩
/-- a row of the table of handlers -/
def lm_hrow (own : String) (args : Array Value) (s : State) (cl : List vw_C) (pc : Nat) (x : ExceptionTableEntry) (q : Nat × Nat) : Prop := covers x pc = true ∧ x.catchType ≠ 0 ∧ x.handlerPc = q.2 ∧ ∃ n T, cl[q.1]? = some (n, T, 0) ∧ n ∈ lm_exs ∧ (Cond.classLink own x.catchType n).before args s = true
def lm_hrows (own : String) (args : Array Value) (s : State) (cl : List vw_C) (pc : Nat) : List ExceptionTableEntry → List (Nat × Nat) → Prop
  | [], [] => True
  | x :: xs, q :: hs => lm_hrow own args s cl pc x q ∧ lm_hrows own args s cl pc xs hs
  | _, _ => False
theorem lm_hrows_find {pc : Nat} : ∀ (xs : List ExceptionTableEntry) (hs : List (Nat × Nat)) (ci h : Nat), lm_hrows own args s cl pc xs hs → lm_find hs (some ci) = some h → ∃ pre x rest, xs = pre ++ x :: rest ∧ lm_hrow own args s cl pc x (ci, h) ∧ ∀ y ∈ pre, ∃ q : Nat × Nat, q.1 ≠ ci ∧ lm_hrow own args s cl pc y q
  | [], [], ci, h, _, hf => by cases hf
  | x :: xs, q :: hs, ci, h, hr, hf => by
    cases hb : Nat.beq q.1 ci with
    | true =>
      have e1 : q.1 = ci := Nat.eq_of_beq_eq_true hb
      have e2 : q.2 = h := by
        have h9 : ((q :: hs).find? (fun q => Nat.beq q.1 ci)).map (fun q => q.2) = some h := hf
        rw [List.find?_cons, hb] at h9
        exact Option.some.inj h9
      refine ⟨[], x, xs, rfl, ?_, fun y hy => by cases hy⟩
      have h8 := hr.1
      rw [show q = (ci, h) from by rw [← e1, ← e2]] at h8
      exact h8
    | false =>
      have hf' : lm_find hs (some ci) = some h := by
        have h9 : ((q :: hs).find? (fun q => Nat.beq q.1 ci)).map (fun q => q.2) = some h := hf
        rw [List.find?_cons, hb] at h9
        exact h9
      obtain ⟨pre, x', rest, e1, e2, e3⟩ := lm_hrows_find xs hs ci h hr.2 hf'
      refine ⟨x :: pre, x', rest, by rw [e1]; rfl, e2, fun y hy => ?_⟩
      rcases List.mem_cons.mp hy with rfl | hy
      · exact ⟨q, (fun e => by rw [e, Nat.beq_refl] at hb; cases hb), hr.1⟩
      · exact e3 y hy
  | [], _ :: _, ci, h, hr, _ => hr.elim
  | _ :: _, [], ci, h, hr, _ => hr.elim
theorem lm_simCatch (hown : s.vm.findClass own = some m.cls) (hG : lm_G D cl tc ad sc b s) (hinj : ∀ (i j : Nat) (n : String) (T U : u_T), cl[i]? = some (n, T, 0) → cl[j]? = some (n, U, 0) → i = j) {pc hp : Nat} {lv : lm_L} {st : List Value} {σ : lm_S} {q : Nat} {hs : List (Nat × Nat)} (hrows : lm_hrows own args s cl pc c.exceptionTable.toList hs) (hf : lm_find hs (lm_cls σ.1 q) = some hp) (k : lm_Sim p l e R s m args below meth c D cl tc ad b nL Q (hp) (lv) ([.ref q]) σ) : lm_SimT p l e R s m args below meth c D cl tc ad b nL Q (pc) (lv) (st) σ (q) := by
  cases hci : lm_cls σ.1 q with
  | none => rw [hci] at hf; cases hf
  | some ci =>
    rw [hci] at hf
    unfold lm_cls at hci
    split at hci
    · rename_i c9 fs hcell
      split at hci
      · rename_i hq
        cases hci
        intro ls H locs cells slots hl hQ hc hsl T hT X
        obtain ⟨pre, x, rest, hsplit, ⟨hcov, hct, hhp, n, T9, hcn, hn, hlink⟩, hpre⟩ := lm_hrows_find _ _ _ _ hrows hf
        have hat := hQ.1 q _ (lm_ws_get hcell)
        rw [← hG.1 q hq] at hat
        obtain ⟨r9, hr9, cell, g1, g2, g3, -⟩ := hat
        have hpl : e.platform.magicAccessors = ({} : Platform).magicAccessors := by rw [X.admits.platform]
        have hcx := (hG.2.2.2.1.1 _ _ hcn).2
        have hfit : s.vm.assignable cell.cls (D.1 ci) = true := by rw [g2]; exact va_assign hcx
        obtain ⟨hcat, hk0⟩ := X.catches_of_link hown hct hlink (cT := D.1 ci) (thrown := cell.cls) hcx.1 hfit
        obtain ⟨vm', X', st9⟩ := X.caughtThrough (ad q) (g := F0 m pc ls (st.map (lm_v ad))) rfl (cell := cell) (by rw [hT]; exact g1) (by rw [g3]; rfl) hk0 pre x rest hsplit (fun y hy => by
          obtain ⟨q', hne, -, hct', -, n', T', hcn', hn', hlink'⟩ := hpre y hy
          obtain ⟨c', hc', hcl'⟩ := Cond.classLink_spec hown hlink' e.platform hpl
          have hnn : n ≠ n' := fun e9 => hne (hinj _ _ n' T' T9 hcn' (by rw [← e9]; exact hcn))
          obtain ⟨u1, u2, hu1, hu2, hu3⟩ := hG.2.2.2.2.2.2.2.2.2.2 n hn n' hn' hnn
          cases hu1.symm.trans hcx.1
          cases hu2.symm.trans hc'
          exact Or.inr ⟨hct', _, hcl', by rw [g2]; exact hu3⟩) hcov hcat
        obtain ⟨t, a1, b1⟩ := k ls H locs cells slots hl hQ hc hsl (T.setVm vm') hT X'
        refine ⟨t, ?_, b1⟩
        have e1 : (T.setTop (F0 m pc ls (st.map (lm_v ad)))).pushFrame (.throwing (ad q)) = T.setFrames (.throwing (ad q) :: .java (F0 m pc ls (st.map (lm_v ad))) :: below) := by
          have h9 := State.frames_setTop' (F0 m pc ls (st.map (lm_v ad))) X.here.top
          obtain ⟨g₀, hfr⟩ := X.frames_eq
          rw [State.pushFrame, h9, X.tail, State.setTop_of_frames _ hfr, State.setFrames_setFrames]
        rw [e1]
        refine st9 t ?_
        rw [hhp]
        exact a1
      · cases hci
    · cases hci
end LMK
