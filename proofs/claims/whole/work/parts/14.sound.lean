/-! ===== EVERY METHOD OF THE LITE PROGRAM KEEPS ITS CONTRACT ===== -/
def lm_gs (own : String) (args : Array Value) (s : State) (idx k : Nat) : Prop := ∃ j q, k = j + 1 ∧ lm_sts[j]? = some q ∧ ((Cond.fieldLink own idx q.1 q.2.1 q.2.2).before args s = true ∨ ∃ host, (Cond.fieldLinkNest own idx q.1 q.2.1 q.2.2 host).before args s = true)
/-- a method's regions are its code, wherever its words hold -/
def lm_goodY (W0 : List Cond) (cl : List vw_C) (dfs : List (List Value)) (vts : List (Nat × Nat × List (Nat × Nat))) (P : List lm_Y) (Y : lm_Y) : Prop :=
  plainFor Y.1 = true ∧ Y.2.2.1 ≤ 100 ∧ ∃ hh : List (Nat × Nat × Nat × Nat), ((hh = [] ∧ Cond.code Y.1 Y.2.1 Y.2.2.1 Y.2.2.2.1 ∈ W0) ∨ Cond.codeWith Y.1 Y.2.1 Y.2.2.1 Y.2.2.2.1 hh ∈ W0) ∧
  ∀ (p : Program) (l : Launch) (e : Env) (R : Room) (s : State) (m : MethodId) (args : Array Value) (below : List Frame) (meth : Method) (c : Code) (D : va_G) (tc : Nat → ClassId) (ad : Nat → Nat) (sc : lm_H) (b : Nat),
    p.tables.exec = Jvm.exec → c.code = Y.2.1 → c.maxLocals = Y.2.2.1 → s.vm.findClass Y.1.cls = some m.cls → lm_G D cl tc ad sc b s → (∀ w ∈ W0, w.before args s = true) → meth.name = Y.1.name → c.exceptionTable.toList.map (fun h => (h.startPc, h.endPc, h.handlerPc, h.catchType)) = hh →
    ∀ pc, ∀ en ∈ lm_reg Y.2.2.2.2.2 pc, lm_okE p l e R s m args below meth c D cl tc ad b Y.2.2.1 Y.2.1 Y.1.cls Y.2.2.2.1 (lm_gs Y.1.cls args s) dfs vts Y.2.2.2.2.1 P en
theorem lm_his {W0 : List Cond} {y : MethodName} {bytes : ByteArray} {maxL : Nat} {ret : Option FieldType} {hh : List (Nat × Nat × Nat × Nat)} {args : Array Value} {s : State} {m : MethodId} (h : (hh = [] ∧ Cond.code y bytes maxL ret ∈ W0) ∨ Cond.codeWith y bytes maxL ret hh ∈ W0) (hw : ∀ w ∈ W0, w.before args s = true) (hn : s.methodNamed? y = some m) :
    ∃ meth c, s.vm.method? m = some meth ∧ meth.code = some c ∧ c.code = bytes ∧ c.maxLocals = maxL ∧ meth.sig.returnType = ret ∧ meth.locks = false ∧ c.exceptionTable.toList.map (fun h => (h.startPc, h.endPc, h.handlerPc, h.catchType)) = hh := by
  rcases h with ⟨rfl, h⟩ | h
  · obtain ⟨meth, c, h1, h2, h3, h4, h5, h6, h7, -⟩ := Cond.code_spec hn (hw _ h)
    refine ⟨meth, c, h1, h2, h3, h4, h5, h6, ?_⟩
    have e : c.exceptionTable.toList = [] := by
      have := Array.isEmpty_iff.mp h7
      rw [this]
    rw [e]
    rfl
  · obtain ⟨m', meth, c, hn', h1, h2, h3, h4, h5, h6, h7, -⟩ := Cond.codeWith_spec (hw _ h)
    cases hn.symm.trans hn'
    exact ⟨meth, c, h1, h2, h3, h4, h6, h7, h5⟩
theorem lm_nat : 20 + (nativeFrameWords "java/lang/System" "arraycopy" 5 + 11) ≤ 400 := by decide +kernel
set_option maxHeartbeats 1000000 in
theorem lm_sound {l : Launch} (hfl : l.stackTraces = false) {D : va_G} {cl : List vw_C} {tc : Nat → ClassId} {ad : Nat → Nat} {sc : lm_H} {b : Nat} {dfs : List (List Value)} {vts : List (Nat × Nat × List (Nat × Nat))} {P : List lm_Y} {W0 : List Cond} (hgw : ∀ w ∈ W0, goodWord w = true) (hinj : ∀ (i j : Nat) (n : String) (T U : u_T), cl[i]? = some (n, T, 0) → cl[j]? = some (n, U, 0) → i = j)
    (hgood : ∀ (y : Nat) (Y : lm_Y), P[y]? = some Y → lm_goodY W0 cl dfs vts P Y) (n : Nat) :
    ∀ (d y : Nat) (Y : lm_Y) (as : List Value) (σ : lm_S) (r : Except Nat lm_R × lm_S), P[y]? = some Y → lm_call sc P vts dfs n d y as σ = some r → MetFree l Y.1 (headSpec W0 (lm_room (20 + d) (400 + 131 * d) σ)) (lm_Pc D cl tc ad sc b as σ.1) (fun _ _ _ _ _ => True) (lm_Qc D cl tc ad b σ r) := by
  intro d
  induction d with
  | zero => intro y Y as σ r _ h; cases h
  | succ d ih =>
    intro y Y as σ r hY h
    have h : (match P[y]? with
      | some Y => cond (Nat.ble (lg_sl as).length Y.2.2.1) (lm_run sc (lm_call sc P vts dfs n d) vts dfs Y.2.2.2.2.1 (lm_reg Y.2.2.2.2.2) n (0, lv_args 0 as, [])) lm_bad
      | none => lm_bad) σ = some r := h
    rw [hY] at h
    obtain ⟨hsl, h⟩ := lm_cond_some h
    have hsl : (lg_sl as).length ≤ Y.2.2.1 := Nat.le_of_ble_eq_true hsl
    obtain ⟨hpl, hm100, hh, hcode, hE⟩ := hgood y Y hY
    refine MetFree.of_bodySF (code := Y.2.1) (maxLocals := Y.2.2.1) (ret := Y.2.2.2.1) hpl ?_ ?_
    · intro args s m h9 hn
      obtain ⟨meth, c, h1, h2, h3, h4, h5, h6, -⟩ := lm_his hcode (atoms_spec (ws := W0) h9) hn
      exact ⟨meth, c, h1, h2, h3, h4, h5, h6⟩
    · intro p e s m args below meth c s₁ B hml hP _
      obtain ⟨rfl, hG, hQ0⟩ := hP
      have hws := atoms_spec (ws := W0) B.pre
      have hown : s.vm.findClass Y.1.cls = some m.cls := findClass_of_methodNamed B.named
      have hname : meth.name = Y.1.name := (name_of_methodNamed B.named B.method).1
      obtain ⟨meth', c', h1, h2, -, -, -, -, hexc'⟩ := lm_his hcode hws B.named
      cases B.method.symm.trans h1
      have X0 := Stand.of_body B
      cases X0.code.symm.trans h2
      have hh0 : s₁.heap = s.heap := by rw [B.state]; rfl
      have htr : e.platform.stackTraces = false := by rw [B.admits.platform]; exact hfl
      have hl := lv_entry (as.map (lm_v ad)) (n := Y.2.2.1) (by rw [lm_sl_len]; exact hsl)
      have key : ∀ (q : Nat) (σ' : lm_S), r = (.error q, σ') → ∀ (U : State) (locs : List Loc) (cells slots : Nat), U.status = .running → Ended U below (.threw (ad q)) → s.WarmedH U.vm → lm_Q D cl tc ad b s σ'.1 U.heap locs → s.sameButNew ({ U with vm := s.vm } : State) locs cells slots → cells + σ'.2.1 ≤ σ.2.1 → slots + σ'.2.2 ≤ σ.2.2 → (∃ o, U.status = .running ∧ Ended U below o ∧ lm_Qc D cl tc ad b σ r (as.map (lm_v ad)).toArray s o U) := by
        intro q σ' hr U locs cells slots a1 a2 a3 a4 a5 a6 a7
        subst hr
        refine ⟨.threw (ad q), a1, a2, rfl, a4.1, a4.2.1, fun x hx => a4.2.2.1.2.1 x (Nat.lt_of_lt_of_le hx hG.2.2.1) (Nat.not_le.mpr hx), a4.2.2.2.1, a4.2.2.2.2, a3, ?_, ?_, locs, a5.mono ?_ ?_, a4.2.2.1.2.2⟩
        · show σ'.2.1 ≤ σ.2.1
          omega
        · show σ'.2.2 ≤ σ.2.2
          omega
        · show cells ≤ σ.2.1 - σ'.2.1
          omega
        · show slots ≤ σ.2.2 - σ'.2.2
          omega
      have hrun := lm_run_ok (R := lm_room (20 + (d + 1)) (400 + 131 * (d + 1)) σ) (Q := fun t => ∃ o, t.status = .running ∧ Ended t below o ∧ lm_Qc D cl tc ad b σ r (as.map (lm_v ad)).toArray s o t) (nL := Y.2.2.1) (gs := lm_gs Y.1.cls (as.map (lm_v ad)).toArray s) (ret := Y.2.2.2.1) (P := P) (ρ := lm_call sc P vts dfs n d) (fr := 20 + d) (lo := 400 + 131 * d) (l := l) (below := below) B.exec B.bytes hml hown hG htr B.notSynchronized hinj hws hgw
        ⟨by show 20 ≤ 20 + (d + 1); omega, by show 20 + d + 1 ≤ 20 + (d + 1); omega, by show 131 + (400 + 131 * d) ≤ 400 + 131 * (d + 1); omega, by show 200 ≤ 400 + 131 * (d + 1); omega, by have := lm_nat; show _ ≤ 400 + 131 * (d + 1); omega⟩ (fun y' Y' hY' => (hgood y' Y' hY').2.1)
        (fun idx k pc lv st σ9 hgs hd k9 => by
          obtain ⟨j, q, rfl, hj, hlk⟩ := hgs
          intro ls H locs cells slots hl9 hQ9 hc9 hs9
          have hZ := hG.2.2.2.2.2.1 j q hj
          rcases hlk with hlk | ⟨host, hlk⟩
          · exact va_gets B.exec B.bytes hZ hQ9.2.2.1 hown hlk (fun _ z => z) hd (k9 ls H locs cells slots hl9 hQ9 hc9 hs9)
          · exact va_getsN B.exec B.bytes hZ hQ9.2.2.1 hown hlk (fun _ z => z) hd (k9 ls H locs cells slots hl9 hQ9 hc9 hs9))
        (fun y' Y' as' σ' r' hY' h' => ih y' Y' as' σ' r' hY' h')
        (fun pc lv v σ' hr9 hok9 => by
          subst hr9
          exact lm_ret_ok B.exec B.bytes B.returns B.notSynchronized hG.2.2.1 ⟨rfl, rfl⟩ hok9)
        (fun q σ' hr9 U locs cells slots a1 a2 a3 a4 a5 a6 a7 => key q σ' hr9 U locs cells slots a1 a2 a3 a4 a5 a6 a7)
        (fun pc en hen => hE p l e _ s m _ below meth c D tc ad sc b B.exec B.bytes hml hown hG hws hname hexc' pc en hen) n (0, lv_args 0 as, []) σ h
      have hW := hrun _ s.heap [] 0 0 (by rw [← lm_args_map]; exact hl) hQ0 (by show 0 + σ.2.1 ≤ σ.2.1; omega) (by show 0 + σ.2.2 ≤ σ.2.2; omega)
      obtain ⟨t, a1, o, b1, b2, b3⟩ := hW s₁ hh0 X0
      refine ⟨t, o, ?_, b1, b2, b3⟩
      rw [lg_entry_eq]
      exact a1
