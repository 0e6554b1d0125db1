/-! ===== WHAT THE CHECK GIVES ===== -/
/-- the words that every class uses -/
def lm_stws : List Cond := [Cond.instanceMethod Lib.objectInit, .code Lib.objectInit ⟨#[0xb1]⟩ 1 none, .native arraycopyName, .static arraycopyName, .initialized "java/lang/System", .arrayClass .int, .arrayClass .byte, .arrayClass .boolean, .arrayClass .long]
def lm_stP : Prop := ∀ w ∈ lm_stws, w ∈ lm_W0
theorem lm_stP_of {q : List Nat} (hl : lm_stws.length = q.length) (hq : q.all (fun i => Nat.blt i 10000) = true) (h : lm_ok1 (q.zip lm_stws)) : lm_stP := by
  intro w hw
  obtain ⟨i, hi⟩ := List.getElem?_of_mem hw
  obtain ⟨j, hj, hm⟩ := lm_zip hl hi
  have hm2 : (j, w) ∈ q.zip lm_stws := by
    have hz : (q.zip lm_stws)[i]? = some (j, w) := by
      rw [List.getElem?_zip_eq_some]
      exact ⟨hj, hi⟩
    exact List.mem_of_getElem? hz
  refine lm_get_in (lm_lt2 (List.all_eq_true.mp hq j (List.mem_of_getElem? hj))) (h.at hm2) ?_
  simp only [lm_stws, List.mem_cons, List.not_mem_nil, or_false] at hw
  rcases hw with rfl | rfl | rfl | rfl | rfl | rfl | rfl | rfl | rfl <;> rfl
/-- the word of a method's code -/
def lm_cwd (q : lm_Y × Nat × List (Nat × Nat × Nat × Nat)) : Cond := match q.1.2.2.2.2.1 with
  | [] => .code q.1.1 q.1.2.1 q.1.2.2.1 q.1.2.2.2.1
  | _ => .codeWith q.1.1 q.1.2.1 q.1.2.2.1 q.1.2.2.2.1 q.2.2
def lm_cdP (P : List lm_Y) (cps : List (Nat × List (Nat × Nat × Nat × Nat))) : Prop := ∀ (y : Nat) (Y : lm_Y), P[y]? = some Y → ∃ z, cps[y]? = some z ∧ lm_cwd (Y, z) ∈ lm_W0
theorem lm_cdP_of {P : List lm_Y} {cps : List (Nat × List (Nat × Nat × Nat × Nat))} (hl : P.length = cps.length) (h : (P.zip cps).map lm_cwd = (cps.map (fun q => q.1)).filterMap (fun i => tables_1[i]?)) : lm_cdP P cps := by
  intro y Y hY
  obtain ⟨z, hz, hm⟩ := lm_zip hl hY
  refine ⟨z, hz, ?_⟩
  have h1 : lm_cwd (Y, z) ∈ (P.zip cps).map lm_cwd := List.mem_map.mpr ⟨_, hm, rfl⟩
  rw [h] at h1
  obtain ⟨i, -, hi⟩ := List.mem_filterMap.mp h1
  refine List.mem_filter.mpr ⟨List.mem_append_right _ (List.mem_of_getElem? hi), ?_⟩
  unfold lm_cwd
  split <;> rfl
section LMO
variable {p : Program} {l : Launch} {e : Env} {R : Room} {s : State} {m : MethodId} {args : Array Value} {below : List Frame} {meth : Method} {c : Code} {D : va_G} {cl : List vw_C} {tc : Nat → ClassId} {ad : Nat → Nat} {sc : lm_H} {b nL : Nat} {cc : ByteArray} {ret : Option FieldType} {dfs : List (List Value)} {vts : List (Nat × Nat × List (Nat × Nat))} {hs : List (Nat × Nat)} {P : List lm_Y} {vx : List lm_Vx} {t : lm_Tb} {ini : Bool} {hh : List (Nat × Nat × Nat × Nat)} {ps : List (List Nat)} {cps : List (Nat × List (Nat × Nat × Nat × Nat))} {pf : List Nat}
theorem lm_cd_of (hws : ∀ w ∈ lm_W0, w.before args s = true) (h : lm_cdP P cps) {y : Nat} {Y : lm_Y} (hY : P[y]? = some Y) : lm_cd s Y.1 Y.2.2.1 := by
  obtain ⟨z, -, hm⟩ := h y Y hY
  have h1 := hws _ hm
  unfold lm_cwd at h1
  split at h1
  · exact lm_cd.of_code h1
  · exact lm_cd.of_codeWith h1
theorem lm_prm_ok {d : String} {n : Nat} (h : lm_prm d n = true) : ∀ sig, parseMethodDescriptor d = some sig → n = sig.parameters.length := by
  intro sig hs
  unfold lm_prm at h
  rw [hs] at h
  exact Nat.eq_of_beq_eq_true h
set_option maxHeartbeats 4000000 in
theorem lm_chkE_ok (hx : p.tables.exec = Jvm.exec) (hb : c.code = cc) (hown : s.vm.findClass t.own = some m.cls) (hG : lm_G D cl tc ad sc b s) (hws : ∀ w ∈ lm_W0, w.before args s = true) (hini : ini = true → meth.name = "<init>") (hexc : c.exceptionTable.toList.map (fun h => (h.startPc, h.endPc, h.handlerPc, h.catchType)) = hh)
    (hcl : lm_clP cl) (hht : lm_hP cl) (hst : lm_stP) (htb : lm_tbP cl dfs P vx t) (hcd : lm_cdP P cps) (hvt : ∀ q ∈ vts.zip vx, lm_ok1 (lm_vW cl P q) ∧ lm_ok2 (lm_vE P q) ∧ lm_vN cl P q = true) (hvl : vts.length = vx.length) (hmh : ∀ (y : Nat) (Y : lm_Y), P[y]? = some Y → lm_noMH Y.1.cls) (hxm : ∀ (v : Nat) (x : lm_Vx), vx[v]? = some x → lm_noMH x.1.cls) (hpf : ∀ f ∈ pf, lm_ok2 (lm_fpE cl t.own f)) (hkB : ∃ T N, cl[lm_kBytes]? = some ("LatticeSuite$Bytes", T, N))
    {en : lm_E} (h : lm_chkE t ini cl cc ret nL hh hs pf en = true) : lm_okE p l e R s m args below meth c D cl tc ad b nL cc t.own ret (lm_gs t.own args s) dfs vts hs P en := by
  obtain ⟨pc, ins, el, o1, o2⟩ := en
  unfold lm_chkE at h
  dsimp only at h
  split at h
  · rename_i q hdec
    obtain ⟨raw, len⟩ := q
    dsimp only at h
    obtain ⟨hW, hEq, hN, hXA⟩ := htb
    unfold lm_tbW at hW
    obtain ⟨wf, hW⟩ := hW.app
    obtain ⟨wc, hW⟩ := hW.app
    obtain ⟨wl, hW⟩ := hW.app
    obtain ⟨wk, hW⟩ := hW.app
    obtain ⟨wa, hW⟩ := hW.app
    obtain ⟨wst, hW⟩ := hW.app
    obtain ⟨wi, hW⟩ := hW.app
    obtain ⟨wy, hW⟩ := hW.app
    obtain ⟨wms, hW⟩ := hW.app
    obtain ⟨wmv, wex⟩ := hW.app
    unfold lm_tbN at hN
    simp only [Bool.and_eq_true, List.all_eq_true] at hN
    obtain ⟨⟨⟨⟨⟨⟨⟨⟨⟨⟨nf, ncn⟩, nl⟩, nk⟩, na⟩, ns⟩, ni⟩, ny⟩, nms⟩, nmv⟩, nex⟩ := hN
    have tf : ∀ q ∈ t.fT, lm_fl t.own args s cl q.1 q.2.1 q.2.2.1 := fun q hq => lm_fl_ok hws hcl (wf.of hq) (hEq.of hq) (nf q hq)
    have tcn : ∀ q ∈ t.cT, (Cond.constant t.own q.1 (Int32.ofInt q.2.1)).before args s = true := fun q hq => hws _ (lm_get_in (lm_lt2 (ncn q hq)) ((wc.of hq).at List.mem_cons_self) rfl)
    have tl : ∀ q ∈ t.lT, (Cond.constantLong t.own q.1 (Int64.ofNat q.2.1)).before args s = true := fun q hq => hws _ (lm_get_in (lm_lt2 (nl q hq)) ((wl.of hq).at List.mem_cons_self) rfl)
    have ti : ∀ q ∈ t.iT, (Cond.methodLink t.own q.1 Lib.objectInit).before args s = true := fun q hq => hws _ (lm_get_in (lm_lt2 (ni q hq)) ((wi.of hq).at List.mem_cons_self) rfl)
    have ty : ∀ q ∈ t.yT, (Cond.methodLink t.own q.1 arraycopyName).before args s = true := fun q hq => hws _ (lm_get_in (lm_lt2 (ny q hq)) ((wy.of hq).at List.mem_cons_self) rfl)
    unfold lm_okE
    cases ins
    case iconst v =>
      unfold lm_chkR at h
      dsimp only at h
      split at h
      · simp only [Bool.and_eq_true, decide_eq_true_eq, Nat.beq_eq, Nat.blt_eq, Bool.or_eq_true] at h
        obtain ⟨⟨rfl, rfl⟩, rfl⟩ := h
        exact Or.inl ⟨hdec, rfl⟩
      · simp only [Bool.and_eq_true, decide_eq_true_eq, Nat.beq_eq, Nat.blt_eq, Bool.or_eq_true] at h
        obtain ⟨⟨h1, rfl⟩, rfl⟩ := h
        exact Or.inr (Or.inl ⟨_, hdec, rfl, h1⟩)
      · simp only [Bool.and_eq_true, decide_eq_true_eq, Nat.beq_eq, Nat.blt_eq, Bool.or_eq_true] at h
        obtain ⟨⟨h1, rfl⟩, rfl⟩ := h
        exact Or.inr (Or.inr (Or.inl ⟨_, hdec, rfl, h1⟩))
      · simp only [Bool.and_eq_true, decide_eq_true_eq, Nat.beq_eq, Nat.blt_eq, Bool.or_eq_true] at h
        obtain ⟨⟨h1, rfl⟩, rfl⟩ := h
        obtain ⟨z, hz, hz2⟩ := List.any_eq_true.mp h1
        simp only [Bool.and_eq_true, decide_eq_true_eq, Nat.beq_eq] at hz2
        have h9 := tcn z hz
        rw [hz2.1, hz2.2] at h9
        exact Or.inr (Or.inr (Or.inr (Or.inl ⟨_, hdec, rfl, h9⟩)))
      · simp only [Bool.and_eq_true, decide_eq_true_eq, Nat.beq_eq, Nat.blt_eq, Bool.or_eq_true] at h
        obtain ⟨⟨h1, rfl⟩, rfl⟩ := h
        obtain ⟨z, hz, hz2⟩ := List.any_eq_true.mp h1
        simp only [Bool.and_eq_true, decide_eq_true_eq, Nat.beq_eq] at hz2
        have h9 := tcn z hz
        rw [hz2.1, hz2.2] at h9
        exact Or.inr (Or.inr (Or.inr (Or.inr ⟨_, hdec, rfl, h9⟩)))
      · cases h
    case ldc2_w v =>
      unfold lm_chkR at h
      dsimp only at h
      split at h
      · simp only [Bool.and_eq_true, decide_eq_true_eq, Nat.beq_eq, Nat.blt_eq, Bool.or_eq_true] at h
        obtain ⟨⟨h1, rfl⟩, rfl⟩ := h
        exact Or.inl ⟨_, hdec, rfl, h1⟩
      · simp only [Bool.and_eq_true, decide_eq_true_eq, Nat.beq_eq, Nat.blt_eq, Bool.or_eq_true] at h
        obtain ⟨⟨h1, rfl⟩, rfl⟩ := h
        obtain ⟨z, hz, hz2⟩ := List.any_eq_true.mp h1
        simp only [Bool.and_eq_true, Nat.beq_eq] at hz2
        have h9 := tl z hz
        rw [hz2.1, hz2.2] at h9
        exact Or.inr ⟨_, hdec, rfl, h9⟩
      · cases h
    case iload i =>
      unfold lm_chkR at h
      dsimp only at h
      split at h
      · simp only [Bool.and_eq_true, decide_eq_true_eq, Nat.beq_eq, Nat.blt_eq, Bool.or_eq_true] at h
        obtain ⟨⟨rfl, rfl⟩, rfl⟩ := h
        exact Or.inl ⟨hdec, rfl⟩
      · simp only [Bool.and_eq_true, decide_eq_true_eq, Nat.beq_eq, Nat.blt_eq, Bool.or_eq_true] at h
        obtain ⟨⟨h1, rfl⟩, rfl⟩ := h
        exact Or.inr ⟨_, hdec, rfl, h1⟩
      · cases h
    case lload i =>
      unfold lm_chkR at h
      dsimp only at h
      split at h
      · simp only [Bool.and_eq_true, decide_eq_true_eq, Nat.beq_eq, Nat.blt_eq, Bool.or_eq_true] at h
        obtain ⟨⟨rfl, rfl⟩, rfl⟩ := h
        exact Or.inl ⟨hdec, rfl⟩
      · simp only [Bool.and_eq_true, decide_eq_true_eq, Nat.beq_eq, Nat.blt_eq, Bool.or_eq_true] at h
        obtain ⟨⟨h1, rfl⟩, rfl⟩ := h
        exact Or.inr ⟨_, hdec, rfl, h1⟩
      · cases h
    case aload i =>
      unfold lm_chkR at h
      dsimp only at h
      split at h
      · simp only [Bool.and_eq_true, decide_eq_true_eq, Nat.beq_eq, Nat.blt_eq, Bool.or_eq_true] at h
        obtain ⟨⟨rfl, rfl⟩, rfl⟩ := h
        exact Or.inl ⟨hdec, rfl⟩
      · simp only [Bool.and_eq_true, decide_eq_true_eq, Nat.beq_eq, Nat.blt_eq, Bool.or_eq_true] at h
        obtain ⟨⟨h1, rfl⟩, rfl⟩ := h
        exact Or.inr ⟨_, hdec, rfl, h1⟩
      · cases h
    case istore i =>
      unfold lm_chkR at h
      dsimp only at h
      rw [Bool.and_eq_true] at h
      obtain ⟨h0, h⟩ := h
      simp only [Nat.blt_eq] at h0
      split at h
      · simp only [Bool.and_eq_true, decide_eq_true_eq, Nat.beq_eq, Nat.blt_eq, Bool.or_eq_true] at h
        obtain ⟨⟨rfl, rfl⟩, rfl⟩ := h
        exact ⟨h0, Or.inl ⟨hdec, rfl⟩⟩
      · simp only [Bool.and_eq_true, decide_eq_true_eq, Nat.beq_eq, Nat.blt_eq, Bool.or_eq_true] at h
        obtain ⟨⟨h1, rfl⟩, rfl⟩ := h
        exact ⟨h0, Or.inr ⟨_, hdec, rfl, h1⟩⟩
      · cases h
    case lstore i =>
      unfold lm_chkR at h
      dsimp only at h
      rw [Bool.and_eq_true] at h
      obtain ⟨h0, h⟩ := h
      simp only [Nat.blt_eq] at h0
      split at h
      · simp only [Bool.and_eq_true, decide_eq_true_eq, Nat.beq_eq, Nat.blt_eq, Bool.or_eq_true] at h
        obtain ⟨⟨rfl, rfl⟩, rfl⟩ := h
        exact ⟨h0, Or.inl ⟨hdec, rfl⟩⟩
      · simp only [Bool.and_eq_true, decide_eq_true_eq, Nat.beq_eq, Nat.blt_eq, Bool.or_eq_true] at h
        obtain ⟨⟨h1, rfl⟩, rfl⟩ := h
        exact ⟨h0, Or.inr ⟨_, hdec, rfl, h1⟩⟩
      · cases h
    case astore i =>
      unfold lm_chkR at h
      dsimp only at h
      rw [Bool.and_eq_true] at h
      obtain ⟨h0, h⟩ := h
      simp only [Nat.blt_eq] at h0
      split at h
      · simp only [Bool.and_eq_true, decide_eq_true_eq, Nat.beq_eq, Nat.blt_eq, Bool.or_eq_true] at h
        obtain ⟨⟨rfl, rfl⟩, rfl⟩ := h
        exact ⟨h0, Or.inl ⟨hdec, rfl⟩⟩
      · simp only [Bool.and_eq_true, decide_eq_true_eq, Nat.beq_eq, Nat.blt_eq, Bool.or_eq_true] at h
        obtain ⟨⟨h1, rfl⟩, rfl⟩ := h
        exact ⟨h0, Or.inr ⟨_, hdec, rfl, h1⟩⟩
      · cases h
    case iinc i n =>
      unfold lm_chkR at h
      dsimp only at h
      rw [Bool.and_eq_true] at h
      obtain ⟨h0, h⟩ := h
      simp only [Nat.blt_eq] at h0
      split at h
      · simp only [Bool.and_eq_true, decide_eq_true_eq, Nat.beq_eq, Nat.blt_eq, Bool.or_eq_true] at h
        obtain ⟨⟨rfl, rfl⟩, ⟨rfl, rfl⟩ | ⟨rfl, rfl⟩⟩ := h
        · exact ⟨h0, Or.inl ⟨hdec, rfl⟩⟩
        · exact ⟨h0, Or.inr ⟨hdec, rfl⟩⟩
      · cases h
    case if_icmp co off =>
      unfold lm_chkR at h
      dsimp only at h
      split at h
      · simp only [Bool.and_eq_true, decide_eq_true_eq, Nat.beq_eq, Nat.blt_eq, Bool.or_eq_true] at h
        obtain ⟨⟨⟨⟨rfl, rfl⟩, rfl⟩, rfl⟩, h5⟩ := h
        exact ⟨hdec, rfl, of_decide_eq_true h5⟩
      · cases h
    case ifCond co off =>
      unfold lm_chkR at h
      dsimp only at h
      split at h
      · simp only [Bool.and_eq_true, decide_eq_true_eq, Nat.beq_eq, Nat.blt_eq, Bool.or_eq_true] at h
        obtain ⟨⟨⟨⟨rfl, rfl⟩, rfl⟩, rfl⟩, h5⟩ := h
        exact ⟨hdec, rfl, of_decide_eq_true h5⟩
      · cases h
    case if_acmp co off =>
      unfold lm_chkR at h
      dsimp only at h
      split at h
      · simp only [Bool.and_eq_true, decide_eq_true_eq, Nat.beq_eq, Nat.blt_eq, Bool.or_eq_true] at h
        obtain ⟨⟨⟨⟨rfl, rfl⟩, rfl⟩, rfl⟩, h5⟩ := h
        exact ⟨hdec, rfl, of_decide_eq_true h5⟩
      · cases h
    case goto off =>
      unfold lm_chkR at h
      dsimp only at h
      split at h
      · simp only [Bool.and_eq_true, decide_eq_true_eq, Nat.beq_eq, Nat.blt_eq, Bool.or_eq_true] at h
        obtain ⟨⟨⟨rfl, rfl⟩, rfl⟩, h5⟩ := h
        exact ⟨hdec, rfl, of_decide_eq_true h5⟩
      · cases h
    case tableswitch d lo hi offs =>
      unfold lm_chkR at h
      dsimp only at h
      simp only [Bool.and_eq_true, decide_eq_true_eq, List.all_eq_true] at h
      obtain ⟨⟨rfl, h2⟩, h3⟩ := h
      exact ⟨⟨_, hdec⟩, of_decide_eq_true h2, fun off ho => of_decide_eq_true (h3 off ho)⟩
    case getfield f =>
      unfold lm_chkR at h
      dsimp only at h
      split at h
      · simp only [Bool.and_eq_true, decide_eq_true_eq, Nat.beq_eq, Nat.blt_eq, Bool.or_eq_true] at h
        obtain ⟨⟨h1, rfl⟩, rfl⟩ := h
        obtain ⟨z, hz, hz2⟩ := List.any_eq_true.mp h1
        simp only [Bool.and_eq_true, Nat.beq_eq] at hz2
        obtain ⟨zi, zr, zf, zp⟩ := z
        obtain ⟨rfl, rfl⟩ := hz2
        exact ⟨_, zr, hdec, rfl, tf _ hz⟩
      · cases h
    case putfield f =>
      unfold lm_chkR at h
      dsimp only at h
      split at h
      · simp only [Bool.and_eq_true, decide_eq_true_eq, Nat.beq_eq, Nat.blt_eq, Bool.or_eq_true] at h
        obtain ⟨⟨⟨h1, h2⟩, rfl⟩, rfl⟩ := h
        obtain ⟨z, hz, hz2⟩ := List.any_eq_true.mp h1
        simp only [Bool.and_eq_true, Nat.beq_eq] at hz2
        obtain ⟨zi, zr, zf, zp⟩ := z
        obtain ⟨rfl, rfl⟩ := hz2
        refine ⟨_, zr, hdec, rfl, tf _ hz, ?_⟩
        rcases h2 with h2 | ⟨⟨h2, h3⟩, h4⟩
        · exact lm_fp_ok (ini := false) hcl (fun z9 => by cases z9) h2 (fun z9 => by cases z9)
        · obtain ⟨g, hg, hg2⟩ := List.any_eq_true.mp h3
          have hg2 := Nat.eq_of_beq_eq_true hg2
          subst hg2
          exact lm_fp_ok (ini := true) hcl (fun _ => hini h2) h4 (fun _ => hpf g hg)
      · cases h
    case getstatic k =>
      unfold lm_chkR at h
      dsimp only at h
      split at h
      · simp only [Bool.and_eq_true, decide_eq_true_eq, Nat.beq_eq, Nat.blt_eq, Bool.or_eq_true] at h
        obtain ⟨⟨h1, rfl⟩, rfl⟩ := h
        obtain ⟨z, hz, hz2⟩ := List.any_eq_true.mp h1
        simp only [Bool.and_eq_true, Nat.beq_eq] at hz2
        obtain ⟨zi, zk, zp⟩ := z
        obtain ⟨rfl, rfl⟩ := hz2
        have h9 := wst.of hz
        have n9 := ns _ hz
        unfold lm_sN at n9
        simp only [Bool.and_eq_true, Nat.blt_eq, Bool.or_eq_true, Bool.not_eq_true'] at n9
        obtain ⟨⟨n1, n2⟩, n3⟩ := n9
        have n1 : 0 < zk := n1
        have n2 : zk < 21 := n2
        unfold lm_sW at h9
        split at h9
        · rename_i z9 hz9
          refine ⟨_, hdec, rfl, zk - 1, z9, by show zk = zk - 1 + 1; omega, hz9, ?_⟩
          have h8 := h9.at List.mem_cons_self
          cases hb9 : Nat.blt zp 20000 with
          | true =>
            dsimp only at h8
            rw [hb9, cond_true] at h8
            exact Or.inl (hws _ (lm_get_in hb9 h8 rfl))
          | false =>
            dsimp only at h8
            rw [hb9, cond_false] at h8
            exact Or.inr ⟨_, lm_wx_use hG.2.2.2.2.2 (lm_get_wx hb9 h8) rfl⟩
        · rename_i hz9
          have hlen : lm_sts.length = 20 := by decide
          have h7 : lm_sts.length ≤ zk - 1 := List.getElem?_eq_none_iff.mp hz9
          omega
      · cases h
    case new ci =>
      unfold lm_chkR at h
      dsimp only at h
      split at h
      · simp only [Bool.and_eq_true, decide_eq_true_eq, Nat.beq_eq, Nat.blt_eq, Bool.or_eq_true] at h
        obtain ⟨⟨h1, rfl⟩, rfl⟩ := h
        obtain ⟨z, hz, hz2⟩ := List.any_eq_true.mp h1
        simp only [Bool.and_eq_true, Nat.beq_eq] at hz2
        obtain ⟨zi, zk, zp⟩ := z
        obtain ⟨rfl, rfl⟩ := hz2
        exact ⟨_, hdec, rfl, lm_nw_ok hws hcl (wk.of hz) (nk _ hz)⟩
      · cases h
    case newarray aty =>
      unfold lm_chkR at h
      dsimp only at h
      split at h
      · simp only [Bool.and_eq_true, decide_eq_true_eq, Nat.beq_eq, Nat.blt_eq, Bool.or_eq_true] at h
        obtain ⟨⟨⟨rfl, rfl⟩, rfl⟩, h4⟩ := h
        refine ⟨hdec, rfl, ?_⟩
        split at h4
        · exact hws _ (hst _ (by simp [lm_stws, newarray.typeOf]))
        · exact hws _ (hst _ (by simp [lm_stws, newarray.typeOf]))
        · exact hws _ (hst _ (by simp [lm_stws, newarray.typeOf]))
        · exact hws _ (hst _ (by simp [lm_stws, newarray.typeOf]))
        · cases h4
      · cases h
    case anewarray k =>
      unfold lm_chkR at h
      dsimp only at h
      split at h
      · simp only [Bool.and_eq_true, decide_eq_true_eq, Nat.beq_eq, Nat.blt_eq, Bool.or_eq_true] at h
        obtain ⟨⟨h1, rfl⟩, rfl⟩ := h
        obtain ⟨z, hz, hz2⟩ := List.any_eq_true.mp h1
        simp only [Bool.and_eq_true, Nat.beq_eq] at hz2
        obtain ⟨zi, zk, zp⟩ := z
        obtain ⟨rfl, rfl⟩ := hz2
        have h9 : lm_get zp = some (.classLink t.own zi "LatticeSuite$Bytes") := (wa.of hz).at List.mem_cons_self
        have n9 := na _ hz
        exact ⟨_, hdec, rfl, hws _ (lm_get_in (lm_lt2 n9.1) h9 rfl), (show va_Nw (.arrayOver (.object "LatticeSuite$Bytes")) s from hG.2.2.2.2.2.2.2.2.2.1 _ (by simp [lm_wx]))⟩
      · cases h
    case multianewarray k n =>
      unfold lm_chkR at h
      dsimp only at h
      split at h
      · simp only [Bool.and_eq_true, decide_eq_true_eq, Nat.beq_eq, Nat.blt_eq, Bool.or_eq_true] at h
        obtain ⟨⟨⟨⟨h1, hk3⟩, rfl⟩, rfl⟩, rfl⟩ := h
        obtain ⟨z, hz, hz2⟩ := List.any_eq_true.mp h1
        simp only [Bool.and_eq_true, Nat.beq_eq] at hz2
        obtain ⟨zi, zk, zp⟩ := z
        obtain ⟨rfl, rfl⟩ := hz2
        have n9 := (na _ hz).1
        have h9 := (wa.of hz).at List.mem_cons_self
        rcases hk3 with (rfl | rfl) | rfl
        · have h9 : lm_get zp = some (.classLink t.own zi "[[I") := h9
          have es : "[" ++ (FieldType.array .int).toString = "[[I" := by decide +kernel
          exact ⟨_, .int, hdec, rfl, by rw [es]; exact hws _ (lm_get_in (lm_lt2 n9) h9 rfl), (show va_Nw (.arrayOver (.array .int)) s from hG.2.2.2.2.2.2.2.2.2.1 _ (by simp [lm_wx])), hws _ (hst _ (by simp [lm_stws])), Or.inl ⟨rfl, rfl⟩⟩
        · have h9 : lm_get zp = some (.classLink t.own zi "[[B") := h9
          have es : "[" ++ (FieldType.array .byte).toString = "[[B" := by decide +kernel
          exact ⟨_, .byte, hdec, rfl, by rw [es]; exact hws _ (lm_get_in (lm_lt2 n9) h9 rfl), (show va_Nw (.arrayOver (.array .byte)) s from hG.2.2.2.2.2.2.2.2.2.1 _ (by simp [lm_wx])), hws _ (hst _ (by simp [lm_stws])), Or.inr (Or.inl ⟨rfl, rfl⟩)⟩
        · have h9 : lm_get zp = some (.classLink t.own zi "[[Z") := h9
          have es : "[" ++ (FieldType.array .boolean).toString = "[[Z" := by decide +kernel
          exact ⟨_, .boolean, hdec, rfl, by rw [es]; exact hws _ (lm_get_in (lm_lt2 n9) h9 rfl), (show va_Nw (.arrayOver (.array .boolean)) s from hG.2.2.2.2.2.2.2.2.2.1 _ (by simp [lm_wx])), hws _ (hst _ (by simp [lm_stws])), Or.inr (Or.inr ⟨rfl, rfl⟩)⟩
      · cases h
    case monitorexit  =>
      unfold lm_chkR at h
      dsimp only at h
      split at h
      · simp only [Bool.and_eq_true, decide_eq_true_eq, Nat.beq_eq, Nat.blt_eq, Bool.or_eq_true] at h
        obtain ⟨⟨h1, rfl⟩, rfl⟩ := h
        obtain ⟨z, hz, hz2⟩ := List.any_eq_true.mp h1
        obtain ⟨zi, zp⟩ := z
        have hz2 : zi = _ := Nat.eq_of_beq_eq_true hz2
        subst hz2
        exact ⟨_, hdec, rfl, ti _ hz, hws _ (hst _ (by simp [lm_stws])), hws _ (hst _ (by simp [lm_stws]))⟩
      · cases h
    case monitorenter  =>
      unfold lm_chkR at h
      dsimp only at h
      split at h
      · simp only [Bool.and_eq_true, decide_eq_true_eq, Nat.beq_eq, Nat.blt_eq, Bool.or_eq_true] at h
        obtain ⟨⟨h1, rfl⟩, rfl⟩ := h
        obtain ⟨z, hz, hz2⟩ := List.any_eq_true.mp h1
        obtain ⟨zi, zp⟩ := z
        have hz2 : zi = _ := Nat.eq_of_beq_eq_true hz2
        subst hz2
        exact ⟨_, hdec, rfl, ty _ hz, hws _ (hst _ (by simp [lm_stws])), hws _ (hst _ (by simp [lm_stws])), hws _ (hst _ (by simp [lm_stws]))⟩
      · cases h
    case aastore  =>
      unfold lm_chkR at h
      dsimp only at h
      simp only [Bool.and_eq_true, decide_eq_true_eq, Nat.beq_eq, Nat.blt_eq, Bool.or_eq_true] at h
      obtain ⟨⟨rfl, rfl⟩, rfl⟩ := h
      exact ⟨hdec, rfl, hkB⟩
    case ireturn  =>
      unfold lm_chkR at h
      dsimp only at h
      simp only [Bool.and_eq_true, decide_eq_true_eq, Nat.beq_eq, Nat.blt_eq, Bool.or_eq_true] at h
      obtain ⟨⟨rfl, rfl⟩, h3⟩ := h
      exact ⟨hdec, h3⟩
    case lreturn  =>
      unfold lm_chkR at h
      dsimp only at h
      simp only [Bool.and_eq_true, decide_eq_true_eq, Nat.beq_eq, Nat.blt_eq, Bool.or_eq_true] at h
      obtain ⟨⟨rfl, rfl⟩, h3⟩ := h
      exact ⟨hdec, h3⟩
    case return_  =>
      unfold lm_chkR at h
      dsimp only at h
      simp only [Bool.and_eq_true, decide_eq_true_eq, Nat.beq_eq, Nat.blt_eq, Bool.or_eq_true] at h
      obtain ⟨⟨rfl, rfl⟩, h3⟩ := h
      exact ⟨hdec, h3⟩
    case ret z =>
      unfold lm_chkR at h
      dsimp only at h
      simp only [Bool.and_eq_true, decide_eq_true_eq, Nat.beq_eq, Nat.blt_eq, Bool.or_eq_true] at h
      obtain ⟨⟨rfl, rfl⟩, h3⟩ := h
      exact ⟨hdec, h3⟩
    case areturn  =>
      unfold lm_chkR at h
      dsimp only at h
      simp only [Bool.and_eq_true, decide_eq_true_eq, Nat.beq_eq, Nat.blt_eq, Bool.or_eq_true] at h
      obtain ⟨⟨rfl, rfl⟩, h3⟩ := h
      refine ⟨hdec, ?_⟩
      split at h3
      · exact Or.inl ⟨_, rfl⟩
      · exact Or.inr ⟨_, rfl⟩
      · cases h3
    case invokeinterface y k =>
      unfold lm_chkR at h
      dsimp only at h
      split at h
      · simp only [Bool.and_eq_true, decide_eq_true_eq, Nat.beq_eq, Nat.blt_eq, Bool.or_eq_true] at h
        obtain ⟨⟨⟨h1, rfl⟩, rfl⟩, h4⟩ := h
        obtain ⟨z, hz, hz2⟩ := List.any_eq_true.mp h1
        simp only [Bool.and_eq_true, Nat.beq_eq] at hz2
        obtain ⟨zi, zy, zn, zp⟩ := z
        obtain ⟨⟨rfl, rfl⟩, hn⟩ := hz2
        have h9 := wms.of hz
        have n9 := nms _ hz
        unfold lm_mSN at n9
        simp only [Bool.and_eq_true] at n9
        obtain ⟨⟨⟨n1, n2⟩, n3⟩, n4⟩ := n9
        unfold lm_mSW at h9
        dsimp only at h9 n4
        split at n4
        · rename_i Y hY
          rw [hY] at h9
          dsimp only at h9
          have g1 : lm_get zp.1 = some (.methodLink t.own zi Y.1) := h9.at (by simp)
          have g2 : lm_get zp.2.1 = some (.static Y.1) := h9.at (by simp)
          have g3 : lm_get zp.2.2 = some (.initialized Y.1.cls) := h9.at (by simp)
          have g1 := hws _ (lm_get_in (lm_lt2 n1) g1 rfl)
          have g2 := hws _ (lm_get_in (lm_lt2 n2) g2 rfl)
          have g3 := hws _ (lm_get_in (lm_lt2 n3) g3 rfl)
          refine ⟨rfl, lm_hsB_ok hws hht hexc h4, Y, hY, g3, fun as rest h9 hlen => ?_⟩
          exact lm_lkS hx hb hown g1 g2 g3 (lm_cd_of hws hcd hY) (hmh _ Y hY) (fun sig hsig => by
            have := lm_prm_ok n4 sig hsig
            have hn : zn = k / 4 := hn
            have this : zn = sig.parameters.length := this
            omega) hdec
        · cases n4
      · cases h
    case invokevirtual v =>
      have hvv : ∀ w, vts[v]? = some w → ∃ x, vx[v]? = some x ∧ lm_ok1 (lm_vW cl P (w, x)) ∧ lm_ok2 (lm_vE P (w, x)) ∧ lm_vN cl P (w, x) = true := fun w hw => by
        obtain ⟨x, hx9, hm9⟩ := lm_zip hvl hw
        exact ⟨x, hx9, hvt _ hm9⟩
      have hcan : ∀ w x, lm_ok1 (lm_vW cl P (w, x)) ∧ lm_ok2 (lm_vE P (w, x)) ∧ lm_vN cl P (w, x) = true → ∀ ci y, (ci, y) ∈ w.2.2 → ∃ (pq : Nat × Nat × Nat × Nat × Nat), lm_ok1 (lm_vcW cl P x.1 x.2.1 ((ci, y), pq)) ∧ lm_ok2 (lm_vcE P x.1 x.2.1 ((ci, y), pq)) ∧ lm_vcN cl P x.2.1 ((ci, y), pq) = true := fun w x hvB ci y hm => by
        obtain ⟨b1, b2, b3⟩ := hvB
        unfold lm_vN at b3
        simp only [Bool.and_eq_true, Nat.beq_eq, List.all_eq_true] at b3
        obtain ⟨i, hi⟩ := List.getElem?_of_mem hm
        obtain ⟨pq, -, hm9⟩ := lm_zip b3.1.1.1 hi
        exact ⟨pq, b1.of hm9, b2.of hm9, b3.1.1.2 _ hm9⟩
      have hrest : ∀ w x, lm_vN cl P (w, x) = true → lm_prm x.1.desc (w.1 - 1) = true ∧ 0 < w.1 := fun w x hvB => by
        unfold lm_vN at hvB
        simp only [Bool.and_eq_true, Nat.blt_eq] at hvB
        exact ⟨hvB.1.2, hvB.2⟩
      unfold lm_chkR at h
      dsimp only at h
      split at h
      · simp only [Bool.and_eq_true, decide_eq_true_eq, Nat.beq_eq, Nat.blt_eq, Bool.or_eq_true] at h
        obtain ⟨⟨⟨h1, rfl⟩, rfl⟩, h4⟩ := h
        obtain ⟨z, hz, hz2⟩ := List.any_eq_true.mp h1
        simp only [Bool.and_eq_true, Nat.beq_eq] at hz2
        obtain ⟨zi, zv, zp⟩ := z
        obtain ⟨⟨rfl, rfl⟩, hzp⟩ := hz2
        refine ⟨rfl, lm_hsB_ok hws hht hexc h4, fun w hw ci y hm => ?_⟩
        obtain ⟨x, hx9, hvB⟩ := hvv w hw
        have w9 := wmv.of hz
        have n9 := nmv _ hz
        unfold lm_mVW at w9
        unfold lm_mVN at n9
        dsimp only at w9 n9
        rw [hx9] at w9 n9
        dsimp only at w9 n9
        obtain ⟨pq, hcW, hcE, hcN⟩ := hcan w x hvB ci y hm
        obtain ⟨r2, r3⟩ := hrest w x hvB.2.2
        have r1 := hxm _ x hx9
        unfold lm_vcN at hcN
        simp only [Bool.and_eq_true] at hcN
        obtain ⟨⟨⟨⟨⟨m1, m2⟩, m3⟩, m4⟩, m5⟩, m6⟩ := hcN
        unfold lm_vcW at hcW
        unfold lm_vcE at hcE
        dsimp only at hcW hcE m6
        split at m6
        · rename_i C Y hC hY
          rw [hC, hY] at hcW
          rw [hY] at hcE
          dsimp only at hcW hcE
          obtain ⟨Cn, CT, CN⟩ := C
          have g1 := hws _ (lm_get_in (lm_lt2 m1) (hcW.at List.mem_cons_self) rfl)
          have g2 := hws _ (lm_get_in (lm_lt2 m2) (hcW.at (List.mem_cons_of_mem _ List.mem_cons_self)) rfl)
          have g3 : x.1.desc = Y.1.desc := hcE.at List.mem_cons_self
          refine ⟨Y, hY, g2, fun q as rest h7 fs hlen hq hcell => ?_⟩
          cases hsp : x.2.1 with
          | true =>
            exfalso
            rw [hsp, cond_true] at n9
            simp only [Nat.blt_eq, Nat.ble_eq] at n9 hzp
            omega
          | false =>
            rw [hsp, cond_false] at n9 w9 hcW
            rw [hsp] at hcE
            have hl9 := hws _ (lm_get_in (lm_lt2 n9) (w9.at List.mem_cons_self) rfl)
            have hsel := hws _ (lm_get_in m3 (hcW.at (List.mem_cons_of_mem _ (List.mem_cons_of_mem _ List.mem_cons_self))) rfl)
            refine lm_lkV hx hb hown hG (x := x.1) (y := Y.1) (owner := "LatticeSuite$Hash") hq hcell hC hl9 ?_ hsel g1 (lm_cd_of hws hcd hY) r1 (fun sig hsig => by have := lm_prm_ok r2 sig hsig; omega) g3 hdec
            cases hb0 : Nat.beq pq.2.2.2.1 0 with
            | true =>
              rw [hb0] at hcE
              have e1 : x.1.cls = Y.1.cls := hcE.at (by simp)
              have e2 : x.1.name = Y.1.name := hcE.at (by simp)
              refine Or.inl ⟨?_, g1⟩
              obtain ⟨⟨xa, xb, xc⟩, xr⟩ := x
              obtain ⟨⟨ya, yb, yc⟩, yr⟩ := Y
              dsimp only at e1 e2 g3
              rw [e1, e2, g3]
            | false =>
              rw [hb0, cond_false] at hcW
              have h51 := hcW.at (i := pq.2.2.2.1) (w := .sameMethod x.1.cls "LatticeSuite$Hash" x.1.name x.1.desc) (by simp)
              have h52 := hcW.at (i := pq.2.2.2.2) (w := .declares ⟨"LatticeSuite$Hash", x.1.name, x.1.desc⟩) (by simp)
              rw [hb0] at m5
              have m5 : Nat.blt pq.2.2.2.2 20000 = false := by
                cases hq9 : Nat.blt pq.2.2.2.2 20000 with
                | false => rfl
                | true => rw [hq9] at m5; cases m5
              exact Or.inr ⟨hws _ (lm_get_in (lm_lt2 m4) h51 rfl), ⟨by decide, by decide⟩, Or.inl (lm_wx_use hG.2.2.2.2.2 (lm_get_wx m5 h52) rfl)⟩
        · cases m6
      · simp only [Bool.and_eq_true, decide_eq_true_eq, Nat.beq_eq, Nat.blt_eq, Bool.or_eq_true] at h
        obtain ⟨⟨⟨h1, rfl⟩, rfl⟩, h4⟩ := h
        obtain ⟨z, hz, hz2⟩ := List.any_eq_true.mp h1
        simp only [Bool.and_eq_true, Nat.beq_eq] at hz2
        obtain ⟨zi, zv, zp⟩ := z
        obtain ⟨⟨rfl, rfl⟩, hzp⟩ := hz2
        refine ⟨rfl, lm_hsB_ok hws hht hexc h4, fun w hw ci y hm => ?_⟩
        obtain ⟨x, hx9, hvB⟩ := hvv w hw
        have w9 := wmv.of hz
        have n9 := nmv _ hz
        unfold lm_mVW at w9
        unfold lm_mVN at n9
        dsimp only at w9 n9
        rw [hx9] at w9 n9
        dsimp only at w9 n9
        obtain ⟨pq, hcW, hcE, hcN⟩ := hcan w x hvB ci y hm
        obtain ⟨r2, r3⟩ := hrest w x hvB.2.2
        have r1 := hxm _ x hx9
        unfold lm_vcN at hcN
        simp only [Bool.and_eq_true] at hcN
        obtain ⟨⟨⟨⟨⟨m1, m2⟩, m3⟩, m4⟩, m5⟩, m6⟩ := hcN
        unfold lm_vcW at hcW
        unfold lm_vcE at hcE
        dsimp only at hcW hcE m6
        split at m6
        · rename_i C Y hC hY
          rw [hC, hY] at hcW
          rw [hY] at hcE
          dsimp only at hcW hcE
          obtain ⟨Cn, CT, CN⟩ := C
          have g1 := hws _ (lm_get_in (lm_lt2 m1) (hcW.at List.mem_cons_self) rfl)
          have g2 := hws _ (lm_get_in (lm_lt2 m2) (hcW.at (List.mem_cons_of_mem _ List.mem_cons_self)) rfl)
          have g3 : x.1.desc = Y.1.desc := hcE.at List.mem_cons_self
          refine ⟨Y, hY, g2, fun q as rest h7 fs hlen hq hcell => ?_⟩
          cases hsp : x.2.1 with
          | false =>
            exfalso
            rw [hsp, cond_false] at n9
            simp only [Nat.blt_eq, Nat.ble_eq] at n9 hzp
            omega
          | true =>
            rw [hsp, cond_true] at n9 w9
            rw [hsp] at hcE m6
            have e1 : x.1.cls = Y.1.cls := hcE.at (by simp)
            have e2 : x.1.name = Y.1.name := hcE.at (by simp)
            have e3 : Y.1.name = "<init>" := hcE.at (by simp)
            simp only [Bool.not_true, Bool.false_or, Bool.and_eq_true] at m6
            have e5 : Y.2.2.2.1 = none := by
              have := m6.1
              split at this
              · assumption
              · cases this
            have exy : x.1 = Y.1 := by
              obtain ⟨⟨xa, xb, xc⟩, xr⟩ := x
              obtain ⟨⟨ya, yb, yc⟩, yr⟩ := Y
              dsimp only at e1 e2 g3
              dsimp only
              rw [e1, e2, g3]
            have hcode : (Cond.code Y.1 Y.2.1 Y.2.2.1 none).before args s = true := by
              obtain ⟨z9, -, hm9⟩ := hcd y Y hY
              have h8 := hws _ hm9
              unfold lm_cwd at h8
              dsimp only at h8
              rw [List.isEmpty_iff.mp m6.2, e5] at h8
              exact h8
            refine lm_lkI hx hb hown e3 ?_ g1 hcode (by rw [← exy]; exact r1) (fun sig hsig => by
              rw [← exy] at hsig
              have := lm_prm_ok r2 sig hsig
              omega) hdec
            rw [← exy]
            cases hb9 : Nat.blt (zp - 100000) 20000 with
            | true =>
              rw [hb9, cond_true] at w9
              exact Or.inl (hws _ (lm_get_in hb9 (w9.at List.mem_cons_self) rfl))
            | false =>
              rw [hb9, cond_false] at w9
              exact Or.inr ⟨_, lm_wx_use hG.2.2.2.2.2 (lm_get_wx hb9 (w9.at List.mem_cons_self)) rfl⟩
        · cases m6
      · cases h
    case jsr k =>
      unfold lm_chkR at h
      dsimp only at h
      split at h
      · simp only [Bool.and_eq_true, Nat.beq_eq, List.isEmpty_iff] at h
        obtain ⟨⟨rfl, h2⟩, h1⟩ := h
        obtain ⟨z, hz, hz2⟩ := List.any_eq_true.mp h1
        simp only [Bool.and_eq_true, Nat.beq_eq, decide_eq_true_eq, Bool.or_eq_true] at hz2
        obtain ⟨zi, zx, zc, zk, z1, z2, z3, za⟩ := z
        obtain ⟨⟨⟨rfl, hzk⟩, d3⟩, d4⟩ := hz2
        have hzk : zk = k.toNat := hzk
        have wx9 := wex.of hz
        have n9 := nex _ hz
        have x9 := hXA _ hz
        unfold lm_exN at n9
        simp only [Bool.and_eq_true, List.all_eq_true] at n9
        obtain ⟨⟨⟨⟨m1, m2⟩, m3⟩, m4⟩, m5⟩ := n9
        unfold lm_exW at wx9
        unfold lm_exA at x9
        dsimp only at wx9 x9 m4 m5
        split at m4
        · rename_i C hC
          rw [hC] at wx9 x9
          dsimp only at wx9 x9
          obtain ⟨Cn, CT, CN⟩ := C
          obtain ⟨xa, g2, sx, hsx, hs1, hs2⟩ := x9
          have g1 : CN = 0 := Nat.eq_of_beq_eq_true m4
          subst g1
          have g3 : ∀ n ∈ lm_nms, Jvm.Bundle.fit n = true := by decide +kernel
          have g4 := hws _ (lm_get_in (lm_lt2 m1) (wx9.at List.mem_cons_self) rfl)
          have g5 := hws _ (lm_get_in (lm_lt2 m2) (wx9.at (List.mem_cons_of_mem _ List.mem_cons_self)) rfl)
          have g6 := hws _ (lm_get_in (lm_lt2 m3) (wx9.at (List.mem_cons_of_mem _ (List.mem_cons_of_mem _ List.mem_cons_self))) rfl)
          obtain ⟨sx1, sx2, sx3⟩ := sx
          dsimp only at hs1 hs2
          subst hs2
          have hsx : (t.own, sx2, sx3) ∈ lm_strs := by rw [← hs1]; exact hsx
          have hout : ∀ pc9, ∀ x ∈ c.exceptionTable.toList, covers x pc9 = false := fun pc9 x hx9 => by
            rw [h2] at hexc
            rw [List.map_eq_nil_iff.mp hexc] at hx9
            cases hx9
          have hat : ∀ a ∈ Jvm.Bundle.ownAtoms t.own zc Cn lm_nms, (goodWord a = true ∧ a.before args s = true) ∨ (a ∈ lm_wx ∧ a.onTables = true) ∨ a = .isRef (.static "java/lang/Throwable" "UNASSIGNED_STACK" "[Ljava/lang/StackTraceElement;") ∨ a = .isRef (.static "java/lang/Throwable" "SUPPRESSED_SENTINEL" "Ljava/util/List;") ∨ a = .laysStatic "java/lang/Throwable" "UNASSIGNED_STACK" "[Ljava/lang/StackTraceElement;" ∨ a = .laysStatic "java/lang/Throwable" "SUPPRESSED_SENTINEL" "Ljava/util/List;" := fun a ha => by
            have ha2 : some a ∈ (Jvm.Bundle.ownAtoms t.own zc Cn lm_nms).map some := List.mem_map.mpr ⟨a, ha, rfl⟩
            rw [xa] at ha2
            obtain ⟨pz, hpz, hpa⟩ := List.mem_map.mp ha2
            have m6 := m5 pz hpz
            simp only [Bool.or_eq_true, Bool.not_eq_true', Nat.blt_eq] at m6
            unfold lm_aGet at hpa
            cases hb0 : Nat.beq pz.1 0 with
            | true =>
              rw [hb0, cond_true] at hpa
              rcases m6.2 with m7 | m7
              · rw [hb0] at m7; cases m7
              · rw [hpa] at m7
                dsimp only at m7
                cases hb2 : Nat.blt pz.2 20000 with
                | true =>
                  rw [hb2, cond_true] at m7
                  exact Or.inl ⟨m7, hws _ (lm_get_in hb2 hpa m7)⟩
                | false =>
                  rw [hb2, cond_false] at m7
                  exact Or.inr (Or.inl ⟨lm_get_wx hb2 hpa, m7⟩)
            | false =>
              rw [hb0, cond_false] at hpa
              unfold lm_a4 at hpa
              split at hpa
              · exact Or.inr (Or.inr (Or.inl (Option.some.inj hpa).symm))
              · exact Or.inr (Or.inr (Or.inr (Or.inl (Option.some.inj hpa).symm)))
              · exact Or.inr (Or.inr (Or.inr (Or.inr (Or.inl (Option.some.inj hpa).symm))))
              · exact Or.inr (Or.inr (Or.inr (Or.inr (Or.inr (Option.some.inj hpa).symm))))
          rcases d4 with ⟨⟨d4, d6⟩, d9⟩ | ⟨⟨d4, d6⟩, d9⟩
          · exact ⟨Cn, CT, lm_nms, _, zc, _, 2, sx3, by rw [← hzk]; exact hC, hdec, d3, Or.inl ⟨d4, rfl⟩, d6, d9, g2, g3, by decide, hat, g4, g5, g6, hsx, hout _⟩
          · exact ⟨Cn, CT, lm_nms, _, zc, _, 3, sx3, by rw [← hzk]; exact hC, hdec, d3, Or.inr ⟨d4, rfl⟩, d6, d9, g2, g3, by decide, hat, g4, g5, g6, hsx, hout _⟩
        · cases m4
      · cases h
    all_goals
      unfold lm_chkR at h
      dsimp only at h
      simp only [Bool.and_eq_true, decide_eq_true_eq, Nat.beq_eq] at h
      obtain ⟨⟨rfl, rfl⟩, rfl⟩ := h
      exact ⟨hdec, rfl⟩
  · cases h
end LMO
