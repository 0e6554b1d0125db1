/-! ===== THE CLAIM, out of the lite runs of the law ===== -/
def lm_LQ (_ : Array Value) (s : State) (o : Outcome) (t : State) : Prop := o = .returned (some (.int 1)) ∧ Framed s o t [] 601024 7293033
def lm_LZ (below : List Frame) (a : Array Value) (s : State) : State → Prop := fun t => ∃ o, t.status = .running ∧ Ended t below o ∧ lm_LQ a s o t
/-- WHAT IS LEFT: for every script the lite run of the law ends, with 1 -/
def lm_Pure : Prop := ∀ xs : List Int32, xs.length ≤ 3072 → ∃ (n : Nat) (σ : lm_S), lm_run (lm_sc xs) (lm_call (lm_sc xs) lm_P lm_vts lm_dfs n 600) lm_vts lm_dfs [] (lm_reg lm_law) n (0, [(0, .ref lm_B)], []) ([], 601024, 7293033) = some (.ok (some (.int 1)), σ)
section LMC
variable {p : Program} {l : Launch} {e : Env} {s : State} {m : MethodId} {below : List Frame} {meth : Method} {c : Code} {b0 : Nat}
theorem lm_L_ret (hx : p.tables.exec = Jvm.exec) (hb : c.code = code) (hr : meth.sig.returnType = ret) (hlocks : meth.locks = false) {D : va_G} {tc : Nat → ClassId} {ad : Nat → Nat} {pc : Nat} {lv : lm_L} {σ : lm_S} (hok : lm_okR code ret pc (some (.int 1))) : lm_Sim p l e room_1 s m #[Value.ref b0] below meth c D lm_cl tc ad s.heap.size 8 (lm_LZ below #[Value.ref b0] s) pc lv [.int 1] σ := by
  intro ls H locs cells slots hl hQ hc hs
  refine va_forget (fun q hq => hQ.2.2.1.2.2 q hq) ?_
  refine W.widen (k := 601024) (n := 7293033) (Nat.le_trans (Nat.le_add_right _ _) hc) (Nat.le_trans (Nat.le_add_right _ _) hs) ?_
  have hdg : decode code pc = .ok (.ireturn, 1) := by
    rcases hok with ⟨x9, h1, h2, -⟩ | ⟨x9, h1, -⟩ | ⟨x9, h1, -⟩ | ⟨h1, -⟩
    · exact h2
    · cases h1
    · cases h1
    · cases h1
  show W p l e room_1 s m #[Value.ref b0] below meth c H [] 601024 7293033 (lm_LZ below #[Value.ref b0] s) (F0 m pc ls [.int 1])
  intro T hT X
  obtain ⟨fs, hret, hrun, hended, hW, hframe⟩ := X.leave (v := some (.int 1)) (hlocks := hlocks) (fun h => by rw [hr] at h; cases h)
  have hmeth' : T.vm.method? m = some meth := X.method'
  refine ⟨T.setFrames fs, ?_, .returned (some (.int 1)), hrun, hended, rfl, ⟨_, rfl⟩, hW, hframe⟩
  jvm_step X.here [X.here.top, hx, hb, hdg, hmeth', hr, ret, narrow_b1]
  (try refine ⟨rfl, ?_⟩); (try refine ⟨rfl, ?_⟩)
  first | (intro acts; rw [hret _ acts rfl rfl rfl]) | rw [hret _ _ rfl rfl rfl]
  exact Steps.refl _
set_option maxHeartbeats 4000000 in
theorem lm_L_start (hP : lm_Pure) (hfl : l.stackTraces = false) (htr : e.platform.stackTraces = false) {xs : List Int32} (hL : xs.length ≤ 3072) (hx : p.tables.exec = Jvm.exec) (hb : c.code = code) (hr : meth.sig.returnType = ret) (hml : c.maxLocals = 8) (hown : s.vm.findClass "LatticeSuiteLaw" = some m.cls) (hexc : c.exceptionTable.toList = []) (hts : ∀ w ∈ lw_tbl, w.before #[Value.ref b0] s = true) (hX : va_X b0 xs.length (fun j => xs.getD j 0) s s.heap) (hlocks : meth.locks = false) (hgv : (Jvm.Cond.and given_1 narrow_1).before #[Value.ref b0] s = true) (hname : meth.name = "law") :
    W p l e room_1 s m #[Value.ref b0] below meth c s.heap [] 0 0 (lm_LZ below #[Value.ref b0] s) (entryFrame m ([Value.ref b0] : List Value).toArray 8) := by
  have hw : ∀ w ∈ tables_1, w.before #[Value.ref b0] s = true := fun w h => hts w (List.mem_append_right _ h)
  have hw0 : ∀ w ∈ lm_W0, w.before #[Value.ref b0] s = true := fun w h => hts w (List.mem_filter.mp h).1
  obtain ⟨D, tc, ad, hG, had⟩ := lm_start hw hw0 (flat_of_before _ hgv) hX
  obtain ⟨n, σ', hrun⟩ := hP xs hL
  have hgs : ∀ idx k pc lv st σ, lm_gs "LatticeSuiteLaw" #[Value.ref b0] s idx k → decode code pc = .ok (.getstatic idx, 3) → lm_Sim p l e room_1 s m #[Value.ref b0] below meth c D lm_cl tc ad s.heap.size 8 (lm_LZ below #[Value.ref b0] s) (pc + 3) lv (.ref (lm_B + k) :: st) σ → lm_Sim p l e room_1 s m #[Value.ref b0] below meth c D lm_cl tc ad s.heap.size 8 (lm_LZ below #[Value.ref b0] s) pc lv st σ := fun idx k pc lv st σ9 hgs hd k9 => by
    obtain ⟨j, q, rfl, hj, hlk⟩ := hgs
    intro ls H locs cells slots hl9 hQ9 hc9 hs9
    have hZ := hG.2.2.2.2.2.1 j q hj
    rcases hlk with hlk | ⟨host, hlk⟩
    · exact va_gets hx hb hZ hQ9.2.2.1 hown hlk (fun _ z => z) hd (k9 ls H locs cells slots hl9 hQ9 hc9 hs9)
    · exact va_getsN hx hb hZ hQ9.2.2.1 hown hlk (fun _ z => z) hd (k9 ls H locs cells slots hl9 hQ9 hc9 hs9)
  have hE : ∀ pc, ∀ en ∈ lm_reg lm_law pc, lm_okE p l e room_1 s m #[Value.ref b0] below meth c D lm_cl tc ad s.heap.size 8 code "LatticeSuiteLaw" ret (lm_gs "LatticeSuiteLaw" #[Value.ref b0] s) lm_dfs lm_vts [] lm_P en := fun pc en hen => by
    obtain ⟨q, hq, hen⟩ := lm_reg_mem hen
    have h := List.all_eq_true.mp (List.all_eq_true.mp lm_cL q hq) en hen
    exact lm_chkE_ok (t := lm_tb12) (ini := false) (hh := []) (pf := lm_pf12) hx hb hown hG hw0 (fun h => Bool.noConfusion h) (by rw [hexc]; rfl) lm_clPk lm_hPk lm_k_st lm_k_tb12 lm_k_cd lm_vtP lm_k_len1 lm_mhP lm_mhX lm_k_pf12 ⟨_, _, rfl⟩ h
  have hsim := lm_run_ok (R := room_1) (Q := lm_LZ below #[Value.ref b0] s) (nL := 8) (gs := lm_gs "LatticeSuiteLaw" #[Value.ref b0] s) (ret := ret) (P := lm_P) (ρ := lm_call (lm_sc xs) lm_P lm_vts lm_dfs n 600) (fr := 20 + 600) (lo := 400 + 131 * 600) (l := l) (below := below) hx hb hml hown hG htr hlocks lm_inj hw0 lm_W0_good
    ⟨by show 20 ≤ 2048; omega, by show 20 + 600 + 1 ≤ 2048; omega, by show 131 + (400 + 131 * 600) ≤ 84000; omega, by show 200 ≤ 84000; omega, by have := lm_nat; show _ ≤ 84000; omega⟩ (fun y' Y' hY' => (lm_good_all y' Y' hY').2.1) hgs
    (fun y Y as σ r hY h => lm_sound hfl lm_W0_good lm_inj lm_good_all n 600 y Y as σ r hY h)
    (fun pc lv v σ9 hr9 hok9 => by cases hr9; exact lm_L_ret hx hb hr hlocks hok9)
    (fun q σ9 hr9 => by cases hr9) hE n (0, [(0, .ref lm_B)], []) ([], 601024, 7293033) hrun
  rw [lg_entry_eq]
  have hl := lv_entry [Value.ref b0] (n := 8) (by show 1 ≤ 8; decide)
  refine hsim _ s.heap [] 0 0 ?_ ⟨?_, ?_, va_S.rf, Nat.zero_le _, ?_⟩ (by show 0 + 601024 ≤ 601024; omega) (by show 0 + 7293033 ≤ 7293033; omega)
  · show lv_has _ 8 [(0, lm_v ad (.ref lm_B))]
    show lv_has _ 8 [(0, .ref (ad lm_B))]
    rw [had]
    exact hl
  · intro k q hk
    cases hk
  · rfl
  · intro q c hq
    cases hq
end LMC
def lm_LP (b : Addr) (xs : List Int32) (args : Array Value) (s : State) : Prop := args = #[.ref b] ∧ s.IntsAt b xs ∧ xs.length ≤ 3072 ∧ (Jvm.Cond.and given_1 narrow_1).before args s = true
set_option maxHeartbeats 4000000 in
theorem lm_L_walk (hP : lm_Pure) (l : Launch) (hfl : l.stackTraces = false) (b : Addr) (xs : List Int32) : MetFree l x (headSpec (Jvm.Cond.code x code maxLocals ret :: tables_1) room_1) (lm_LP b xs) (fun _ _ _ _ _ => True) lm_LQ := by
  refine MetFree.of_bodyS (code := code) (maxLocals := maxLocals) (ret := ret) (by decide) ?_ ?_
  · intro args s m h hn
    obtain ⟨meth, c, h1, h2, h3, h4, h5, h6, -, -⟩ := Cond.code_spec hn (atoms_spec (ws := Jvm.Cond.code x code maxLocals ret :: tables_1) h _ List.mem_cons_self)
    exact ⟨meth, c, h1, h2, h3, h4, h5, h6⟩
  · intro p e s m args below meth c s₁ B hml0 hP9 _
    obtain ⟨rfl, hx, hbd, hgv⟩ := hP9
    obtain ⟨scr, harrAt, hlist, hof, hsmall⟩ := hx
    obtain ⟨hcb, hkn, -, -⟩ := State.arrayAt?_spec harrAt
    have hown : s.vm.findClass "LatticeSuiteLaw" = some m.cls := findClass_of_methodNamed B.named
    have hts0 : ∀ c ∈ (Jvm.Cond.code x code maxLocals ret :: tables_1), c.before #[Value.ref b] s = true := atoms_spec (ws := Jvm.Cond.code x code maxLocals ret :: tables_1) B.pre
    have hts : ∀ w ∈ lw_tbl, w.before #[Value.ref b] s = true := k2_hts_sels lw_privs (fun w hw => hts0 w (List.mem_cons_of_mem _ hw)) lw_privs_ok
    have hml : c.maxLocals = 8 := B.maxLocals_eq (hts0 _ List.mem_cons_self)
    have X₀ : Stand p l e room_1 s m #[Value.ref b] below meth c s₁ [] 0 0 := Stand.of_body B
    have hh0 : s₁.heap = s.heap := by rw [B.state]; rfl
    have hsz : scr.slots.size = xs.length := by rw [← Array.length_toList, hlist, List.length_map]
    have hval : ∀ j : Nat, j < xs.length → scr.slots[j]? = some (.int (xs.getD j 0)) := fun j hj => by
      rw [← Array.getElem?_toList, hlist]
      simp [hj]
    have hX : va_X b xs.length (fun j => xs.getD j 0) s s.heap := ⟨scr, hcb, hof, hkn, hsz, hval⟩
    have htr : e.platform.stackTraces = false := by rw [B.admits.platform]; exact hfl
    have hname : meth.name = "law" := (name_of_methodNamed B.named B.method).1
    have hexc : c.exceptionTable.toList = [] := by
      obtain ⟨meth9, c9, h1, h2, -, -, -, -, h7, -⟩ := Cond.code_spec B.named (hts0 _ List.mem_cons_self)
      cases B.method.symm.trans h1
      cases X₀.code.symm.trans h2
      have := Array.isEmpty_iff.mp h7
      rw [this]
    have K : W p l e room_1 s m #[Value.ref b] below meth c s₁.heap [] 0 0 (lm_LZ below #[Value.ref b] s) (entryFrame m ([Value.ref b] : List Value).toArray 8) := by
      rw [hh0]
      exact lm_L_start hP hfl htr hbd B.exec B.bytes B.returns hml hown hexc hts hX B.notSynchronized hgv hname
    obtain ⟨t, a1, o, b1, b2, b3⟩ := K s₁ rfl X₀
    exact ⟨t, o, a1, b1, b2, b3⟩
theorem lm_L_pre {args : Array Value} {s : State} (h : (Jvm.Cond.and given_1 narrow_1).before args s = true) (hr : rest_1_c.before args s = true) : ∃ (b : Addr) (xs : List Int32), lm_LP b xs args s := by
  have hs := flat_of_before _ h
  have hq := flat_of_before _ hr
  have hc : (Cond.count 1).before args s = true := hs _ (by decide +kernel)
  have harr : (Cond.arrayOf (.arg 0) .int).before args s = true := hs _ (by decide +kernel)
  have hle : (Cond.le (.length (.arg 0)) (.int 3072)).before args s = true := hs _ (by decide +kernel)
  have hlen : (Cond.isInt (.length (.arg 0))).before args s = true := hq _ (by decide +kernel)
  have hall : (Cond.all (.arg 0) (.isInt (.elem (.arg 0) (.index 0)))).before args s = true := hq _ (by decide +kernel)
  obtain ⟨b, xs, hb, hx⟩ := State.ints_of_pre rfl harr hlen hall
  have hsm : xs.length < 2 ^ 31 := hx.choose_spec.2.2.2
  have hev : (Term.length (.arg 0)).eval args s none [] s = some (.int xs.length.toInt32) := hx.length_eval hb
  have hv := Cond.le_ints hev (show (Term.int 3072).eval args s none [] s = some (.int 3072) from rfl)
  have hd : xs.length.toInt32 ≤ 3072 := by
    simpa [Cond.before, Cond.holds, hv] using hle
  have hN : xs.length ≤ 3072 := (Int32.ofNat_le_ofNat hsm (by decide)).mp (show Int32.ofNat xs.length ≤ Int32.ofNat 3072 from hd)
  exact ⟨b, xs, Cond.one_arg hc (show args[0]? = some (.ref b) from hb), hx, hN, h⟩
theorem lm_L_limb (hP : lm_Pure) (L : Cond) (hL : ∀ (args : Array Value) (s t : State), L.after args s (.returned (some (.int 1))) t = true) :
    ArmFor flags0 classFile x code maxLocals ret World_1 tables_1 room_1 Calls_1 rest_1 Pre_1
      (fun tb e a s o t => postC L tb e a s o t ∧ Framed s o t (fieldLocs frame_1_writes a s ++ arrayLocs frame_1_arrays a s ++ staticLocs frame_1_statics s) 601024 7293033) := by
  intro l hflags _ _ p e ha hc hk s m args below hf hfit hheap happ hpre
  have hfl : l.stackTraces = false := by
    unfold Launch.stackTraces
    rw [hflags]
    decide +kernel
  obtain ⟨b, xs, hP9⟩ := lm_L_pre hpre.2.2 hpre.2.1
  obtain ⟨k, o, h1, h2, h3, rfl, hF⟩ := lm_L_walk hP l hfl b xs p e ha hc hk s m args below hf ((Spec.applies_iff_loose hf).mp happ).1 hP9 trivial
  exact ⟨k, _, h1, h2, h3, hL args s _, hF⟩
/-- the claim, out of the lite runs -/
theorem lm_claim (hP : lm_Pure) : Claimed_1_1 ∧ Claimed_1_2 := ⟨lm_L_limb hP limb_1_1 (fun args s t => by simp [limb_1_1, Cond.after, Cond.holds, Cond.value]), lm_L_limb hP limb_1_2 (fun args s t => Cond.after_iff.mpr (by
  first | (rw [show limb_1_2 = Cond.eq .result (.int 1) from rfl, Cond.eq_ints (x := 1) (y := 1) rfl rfl]; simp; done) | (simp [limb_1_2, Cond.value, Term.eval]; done)))⟩
