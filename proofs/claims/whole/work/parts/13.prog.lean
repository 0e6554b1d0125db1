/-! ===== THE WHOLE PROGRAM ===== -/
/-- the lite program: static cells, methods, virtual tables, first fields; n: passes from region to region, d: depth of calls -/
noncomputable def lm_call (sc : lm_H) (P : List lm_Y) (vts : List (Nat × Nat × List (Nat × Nat))) (dfs : List (List Value)) (n d : Nat) : Nat → List Value → lm_M lm_R :=
  Nat.rec (motive := fun _ => Nat → List Value → lm_M lm_R) (fun _ _ => lm_bad) (fun _ ih y as => match P[y]? with
    | some Y => cond (Nat.ble (lg_sl as).length Y.2.2.1) (lm_run sc ih vts dfs Y.2.2.2.2.1 (lm_reg Y.2.2.2.2.2) n (0, lv_args 0 as, [])) lm_bad
    | none => lm_bad) d
theorem lm_args_map (ad : Nat → Nat) : ∀ (as : List Value) (i : Nat), lv_args i (as.map (lm_v ad)) = (lv_args i as).map (fun q => (q.1, lm_v ad q.2))
  | [], _ => rfl
  | v :: as, i => by
    show (i, lm_v ad v) :: lv_args (if (lm_v ad v).category = 2 then i + 2 else i + 1) (as.map (lm_v ad)) = _
    rw [lm_v_cat, lm_args_map ad as]
    rfl
theorem lm_sl_len (ad : Nat → Nat) : ∀ (as : List Value), (lg_sl (as.map (lm_v ad))).length = (lg_sl as).length
  | [] => rfl
  | v :: as => by
    have h := lm_sl_len ad as
    unfold lg_sl at h ⊢
    rw [List.map_cons, List.flatMap_cons, List.flatMap_cons, List.length_append, List.length_append, h, lm_v_cat]
    by_cases h2 : v.category = 2 <;> simp [h2]
section LMP
variable {p : Program} {l : Launch} {e : Env} {R : Room} {s : State} {m : MethodId} {args : Array Value} {below : List Frame} {meth : Method} {c : Code} {D : va_G} {cl : List vw_C} {tc : Nat → ClassId} {ad : Nat → Nat} {sc : lm_H} {b nL : Nat} {Q : State → Prop} {cc : ByteArray} {own : String} {ret : Option FieldType} {gs : Nat → Nat → Prop} {dfs : List (List Value)} {ρ : Nat → List Value → lm_M lm_R} {vts : List (Nat × Nat × List (Nat × Nat))} {hs : List (Nat × Nat)} {P : List lm_Y}
theorem lm_run_ok (hx : p.tables.exec = Jvm.exec) (hb : c.code = cc) (hml : c.maxLocals = nL) (hown : s.vm.findClass own = some m.cls) (hG : lm_G D cl tc ad sc b s) (htr : e.platform.stackTraces = false) (hlocks : meth.locks = false) (hinj : ∀ (i j : Nat) (n : String) (T U : u_T), cl[i]? = some (n, T, 0) → cl[j]? = some (n, U, 0) → i = j)
    {fr lo : Nat} {ws : List Cond} (hws : ∀ w ∈ ws, w.before args s = true) (hgw : ∀ w ∈ ws, goodWord w = true) (hR : 20 ≤ R.frames ∧ fr + 1 ≤ R.frames ∧ 131 + lo ≤ R.locals ∧ 200 ≤ R.locals ∧ 20 + (nativeFrameWords "java/lang/System" "arraycopy" 5 + 11) ≤ R.locals) (hPm : ∀ (y : Nat) (Y : lm_Y), P[y]? = some Y → Y.2.2.1 ≤ 100)
    (hgs : ∀ idx k pc lv st σ, gs idx k → decode cc pc = .ok (.getstatic idx, 3) → lm_Sim p l e R s m args below meth c D cl tc ad b nL Q (pc + 3) (lv) (.ref (lm_B + k) :: st) σ → lm_Sim p l e R s m args below meth c D cl tc ad b nL Q (pc) (lv) (st) σ)
    (hρ : ∀ (y : Nat) (Y : lm_Y) (as : List Value) (σ : lm_S) (r : Except Nat lm_R × lm_S), P[y]? = some Y → ρ y as σ = some r → MetFree l Y.1 (headSpec ws (lm_room fr lo σ)) (lm_Pc D cl tc ad sc b as σ.1) (fun _ _ _ _ _ => True) (lm_Qc D cl tc ad b σ r))
    {r : Except Nat lm_R × lm_S} (kr : ∀ pc lv v σ', r = (.ok v, σ') → lm_okR cc ret pc v → lm_Sim p l e R s m args below meth c D cl tc ad b nL Q (pc) (lv) (v.toList) σ')
    (kthr : ∀ q σ', r = (.error q, σ') → ∀ (U : State) (locs : List Loc) (cells slots : Nat), U.status = .running → Ended U below (.threw (ad q)) → s.WarmedH U.vm → lm_Q D cl tc ad b s σ'.1 U.heap locs → s.sameButNew ({ U with vm := s.vm } : State) locs cells slots → cells + σ'.2.1 ≤ R.cells → slots + σ'.2.2 ≤ R.slots → Q U)
    {code : Nat → List lm_E} (hE : ∀ pc, ∀ en ∈ code pc, lm_okE p l e R s m args below meth c D cl tc ad b nL cc own ret gs dfs vts hs P en) :
    ∀ (n : Nat) (f : lm_F) (σ : lm_S), lm_run sc ρ vts dfs hs code n f σ = some r → lm_Sim p l e R s m args below meth c D cl tc ad b nL Q (f.1) (f.2.1) (f.2.2) σ := by
  intro n
  induction n with
  | zero => intro f σ h; cases h
  | succ n ih =>
    intro f σ h
    exact lm_blk_ok hx hb hml hown hG htr hlocks hinj hws hgw hR hPm hgs hρ (back := lm_run sc ρ vts dfs hs code n) (fun f σ' h9 => ih f σ' h9) kr kthr (code f.1) (hE f.1) f.1 f.2.1 f.2.2 σ h
/-- the return, as the contract has it -/
theorem lm_ret_ok (hx : p.tables.exec = Jvm.exec) (hb : c.code = cc) (hr : meth.sig.returnType = ret) (hlocks : meth.locks = false) (hbs : b ≤ s.heap.size) {σ0 : lm_S} (hR0 : R.cells = σ0.2.1 ∧ R.slots = σ0.2.2) {pc : Nat} {lv : lm_L} {v : lm_R} {σ : lm_S} (hok : lm_okR cc ret pc v) : lm_Sim p l e R s m args below meth c D cl tc ad b nL (fun t => ∃ o, t.status = .running ∧ Ended t below o ∧ lm_Qc D cl tc ad b σ0 (.ok v, σ) args s o t) pc lv v.toList σ := by
  intro ls H locs cells slots hl hQ hc hs
  have key : ∀ (w : Option Value) (t : State), w = v.map (lm_v ad) → t.heap = H → s.WarmedH t.vm → s.sameButNew ({ t with vm := s.vm } : State) locs cells slots → lm_Qc D cl tc ad b σ0 (.ok v, σ) args s (.returned w) t := fun w t hw ht hW hsm => by
    refine ⟨by rw [hw]; rfl, by rw [ht]; exact hQ.1, by rw [ht]; exact hQ.2.1, fun q hq => ?_, hQ.2.2.2.1, hQ.2.2.2.2, hW, ?_, ?_, locs, hsm.mono ?_ ?_, hQ.2.2.1.2.2⟩
    · rw [ht]
      exact hQ.2.2.1.2.1 q (Nat.lt_of_lt_of_le hq hbs) (Nat.not_le.mpr hq)
    · show σ.2.1 ≤ σ0.2.1
      omega
    · show σ.2.2 ≤ σ0.2.2
      omega
    · show cells ≤ σ0.2.1 - σ.2.1
      omega
    · show slots ≤ σ0.2.2 - σ.2.2
      omega
  intro T hT X
  rcases hok with ⟨x, rfl, hd, hk⟩ | ⟨x, rfl, hd, hk⟩ | ⟨x, rfl, hd, hk⟩ | ⟨rfl, hd, hk⟩
  · obtain ⟨fs, hret, hrun, hended, hW, hframe⟩ := X.leave (v := some (.int x)) (fun h => by rw [hr] at h; rcases hk with hk | ⟨hk, -⟩ <;> rw [hk] at h <;> cases h) hlocks
    have hmeth' : T.vm.method? m = some meth := X.method'
    refine ⟨T.setFrames fs, ?_, .returned (some (.int x)), hrun, hended, key _ _ rfl hT hW hframe⟩
    show Steps _ _ _ (T.setTop (F0 m pc ls [.int x])) _
    rcases hk with hk | ⟨hk, h01⟩
    · rw [hk] at hr
      jvm_step X.here [X.here.top, hx, hb, hd, hmeth', hr, narrow]
      (try refine ⟨rfl, ?_⟩); (try refine ⟨rfl, ?_⟩)
      first | (intro acts; rw [hret _ acts rfl rfl rfl]) | rw [hret _ _ rfl rfl rfl]
      exact Steps.refl _
    · rw [hk] at hr
      have hnar : narrow .boolean (.int x) = .int x := by rcases h01 with rfl | rfl <;> rfl
      jvm_step X.here [X.here.top, hx, hb, hd, hmeth', hr, hnar]
      (try refine ⟨rfl, ?_⟩); (try refine ⟨rfl, ?_⟩)
      first | (intro acts; rw [hret _ acts rfl rfl rfl]) | rw [hret _ _ rfl rfl rfl]
      exact Steps.refl _
  · obtain ⟨fs, hret, hrun, hended, hW, hframe⟩ := X.leave (v := some (.long x)) (fun h => by rw [hr, hk] at h; cases h) hlocks
    have hmeth' : T.vm.method? m = some meth := X.method'
    refine ⟨T.setFrames fs, ?_, .returned (some (.long x)), hrun, hended, key _ _ rfl hT hW hframe⟩
    rw [hk] at hr
    show Steps _ _ _ (T.setTop (F0 m pc ls [.long x])) _
    jvm_step X.here [X.here.top, hx, hb, hd, hmeth', hr]
    (try refine ⟨rfl, ?_⟩); (try refine ⟨rfl, ?_⟩)
    first | (intro acts; rw [hret _ acts rfl rfl rfl]) | rw [hret _ _ rfl rfl rfl]
    exact Steps.refl _
  · obtain ⟨fs, hret, hrun, hended, hW, hframe⟩ := X.leave (v := some (.ref (ad x))) (fun h => by rw [hr] at h; rcases hk with ⟨n, hk⟩ | ⟨n, hk⟩ <;> rw [hk] at h <;> cases h) hlocks
    have hmeth' : T.vm.method? m = some meth := X.method'
    refine ⟨T.setFrames fs, ?_, .returned (some (.ref (ad x))), hrun, hended, key _ _ rfl hT hW hframe⟩
    show Steps _ _ _ (T.setTop (F0 m pc ls [.ref (ad x)])) _
    rcases hk with ⟨n, hk⟩ | ⟨n, hk⟩ <;> rw [hk] at hr <;>
     (jvm_step X.here [X.here.top, hx, hb, hd, hmeth', hr]
      (try refine ⟨rfl, ?_⟩); (try refine ⟨rfl, ?_⟩)
      first | (intro acts; rw [hret _ acts rfl rfl rfl]) | rw [hret _ _ rfl rfl rfl]
      exact Steps.refl _)
  · obtain ⟨fs, hret, hrun, hended, hW, hframe⟩ := X.leave (v := none) (fun _ => rfl) hlocks
    have hmeth' : T.vm.method? m = some meth := X.method'
    refine ⟨T.setFrames fs, ?_, .returned none, hrun, hended, key _ _ rfl hT hW hframe⟩
    rw [hk] at hr
    jvm_step X.here [X.here.top, hx, hb, hd, hmeth', hr]
    (try refine ⟨rfl, ?_⟩); (try refine ⟨rfl, ?_⟩)
    first | (intro acts; rw [hret _ acts rfl rfl rfl]) | rw [hret _ _ rfl rfl rfl]
    exact Steps.refl _
end LMP
