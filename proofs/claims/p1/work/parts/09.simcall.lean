/-! a lite run as a contract -/
def lm_out (ad : Nat → Nat) (r : Except Nat lm_R) : Outcome := match r with
  | .ok v => .returned (v.map (lm_v ad))
  | .error q => .threw (ad q)
def lm_Pc (D : va_G) (cl : List vw_C) (tc : Nat → ClassId) (ad : Nat → Nat) (sc : lm_H) (b : Nat) (as : List Value) (h : lm_H) : Array Value → State → Prop := fun a U => a = (as.map (lm_v ad)).toArray ∧ lm_G D cl tc ad sc b U ∧ lm_Q D cl tc ad b U h U.heap []
def lm_Qc (D : va_G) (cl : List vw_C) (tc : Nat → ClassId) (ad : Nat → Nat) (b : Nat) (σ : lm_S) (r : Except Nat lm_R × lm_S) : Array Value → State → Outcome → State → Prop := fun _ U o t =>
  o = lm_out ad r.1 ∧ va_P D cl (lm_ws b tc ad r.2.1) t.heap ∧ t.heap.size = b + r.2.1.length ∧ (∀ q, q < b → t.heap[q]? = U.heap[q]?) ∧ r.2.1.length ≤ lm_B ∧ lm_okH r.2.1 ∧ U.WarmedH t.vm ∧ r.2.2.1 ≤ σ.2.1 ∧ r.2.2.2 ≤ σ.2.2 ∧
    ∃ L, U.sameButNew ({ t with vm := U.vm } : State) L (σ.2.1 - r.2.2.1) (σ.2.2 - r.2.2.2) ∧ ∀ x ∈ L, b ≤ x.base
def lm_SimT (p : Program) (l : Launch) (e : Env) (R : Room) (s : State) (m : MethodId) (args : Array Value) (below : List Frame) (meth : Method) (c : Code) (D : va_G) (cl : List vw_C) (tc : Nat → ClassId) (ad : Nat → Nat) (b nL : Nat) (Q : State → Prop) (pc : Nat) (lv : lm_L) (st : List Value) (σ : lm_S) (q : Nat) : Prop :=
  ∀ (ls : Array Slot) (H : Heap) (locs : List Loc) (cells slots : Nat), lv_has ls nL (lv.map fun q => (q.1, lm_v ad q.2)) → lm_Q D cl tc ad b s σ.1 H locs → cells + σ.2.1 ≤ R.cells → slots + σ.2.2 ≤ R.slots →
    ∀ T : State, T.heap = H → Stand p l e R s m args below meth c T locs cells slots → ∃ t, Steps p.tables e below ((T.setTop (F0 m pc ls (st.map (lm_v ad)))).pushFrame (.throwing (ad q))) t ∧ Q t
section LMS
variable {p : Program} {l : Launch} {e : Env} {R : Room} {s : State} {m : MethodId} {args : Array Value} {below : List Frame} {meth : Method} {c : Code} {D : va_G} {cl : List vw_C} {tc : Nat → ClassId} {ad : Nat → Nat} {sc : lm_H} {b nL : Nat} {Q : State → Prop}
/-- the invoking instruction links, and hands over to y -/
def lm_Lk (p : Program) (l : Launch) (e : Env) (R : Room) (s : State) (m : MethodId) (args : Array Value) (below : List Frame) (meth : Method) (c : Code) (D : va_G) (cl : List vw_C) (tc : Nat → ClassId) (ad : Nat → Nat) (b : Nat) (y : MethodName) (maxL : Nat) (pc : Nat) (as rest : List Value) (h : lm_H) : Prop :=
  (∃ i, decode c.code pc = .ok (i, 3)) ∧ ∀ (T : State) (ls : Array Slot) (locs : List Loc) (cells slots : Nat), Stand p l e R s m args below meth c T locs cells slots → lm_Q D cl tc ad b s h T.heap locs →
    ∃ (mk : MethodId) (vm₁ : Vm), s.methodNamed? y = some mk ∧ (∃ methY cY, s.vm.method? mk = some methY ∧ methY.code = some cY ∧ cY.maxLocals = maxL) ∧ Stand p l e R s m args below meth c (T.setVm vm₁) locs cells slots ∧
      ∀ target, (∀ acts, Steps p.tables e below (doInvoke e ((T.setVm vm₁).setTop (F0 m pc ls (rest.map (lm_v ad)))) acts mk (as.map (lm_v ad)).toArray).1 target) → Steps p.tables e below (T.setTop (F0 m pc ls ((as.reverse ++ rest).map (lm_v ad)))) target
set_option maxHeartbeats 1000000 in
theorem lm_simCall (hml : c.maxLocals = nL) (hG : lm_G D cl tc ad sc b s) {y : MethodName} {maxL pc : Nat} {as rest : List Value} {σ : lm_S} {r : Except Nat lm_R × lm_S} {lv : lm_L} {ws : List Cond} {rm : Room} (hws : ∀ w ∈ ws, w.before args s = true) (hgw : ∀ w ∈ ws, goodWord w = true) (hini : (Cond.initialized y.cls).before args s = true)
    (hM : MetFree l y (headSpec ws rm) (lm_Pc D cl tc ad sc b as σ.1) (fun _ _ _ _ _ => True) (lm_Qc D cl tc ad b σ r)) (hrc : rm.cells = σ.2.1) (hrs : rm.slots = σ.2.2) (hfr : rm.frames + 1 ≤ R.frames) (hlo : 20 + (maxL + 11) + rm.locals ≤ R.locals) (hwt : lm_wt rest ≤ 20)
    (hlk : lm_Lk p l e R s m args below meth c D cl tc ad b y maxL pc as rest σ.1)
    (kok : ∀ v, r.1 = .ok v → lm_Sim p l e R s m args below meth c D cl tc ad b nL Q (pc + 3) (lv) (v.toList ++ rest) r.2) (kth : ∀ q, r.1 = .error q → lm_SimT p l e R s m args below meth c D cl tc ad b nL Q (pc) (lv) (rest) r.2 (q)) : lm_Sim p l e R s m args below meth c D cl tc ad b nL Q (pc) (lv) (as.reverse ++ rest) σ := by
  obtain ⟨⟨ig, hdg⟩, hlk⟩ := hlk
  intro ls H locs cells slots hl hQ hc hs T hT X
  obtain ⟨mk, vm₁, hn, ⟨methY, cY, hmY, hcY, hlY⟩, X₁, step⟩ := hlk T ls locs cells slots X (by rw [hT]; exact hQ)
  have hal := X₁.warmed.alike
  have hn1 : (T.setVm vm₁).methodNamed? y = some mk := X₁.named hn
  have hmY1 : (T.setVm vm₁).vm.method? mk = some methY := by rw [hal.method?]; exact hmY
  have hTh : (T.setVm vm₁).heap = H := hT
  have hPc : lm_Pc D cl tc ad sc b as σ.1 (as.map (lm_v ad)).toArray ((T.setVm vm₁).calling (F0 m pc ls (rest.map (lm_v ad))) mk (as.map (lm_v ad)).toArray) := by
    refine ⟨rfl, ⟨hG.1, fun k c9 hc9 => ⟨(hG.2.1 k c9 hc9).1, ?_⟩, ?_, va_K.moved hal hG.2.2.2.1, hG.2.2.2.2.1, hG.2.2.2.2.2.moved (U := (T.setVm vm₁).calling (F0 m pc ls (rest.map (lm_v ad))) mk (as.map (lm_v ad)).toArray) X₁.warmed (fun a9 h1 h2 => by show (T.setVm vm₁).heap[a9]? = _; rw [hTh]; exact hQ.2.2.1.2.1 a9 h1 h2)⟩, ?_⟩
    · exact (hG.2.1 k c9 hc9).2.moved hal (by show (T.setVm vm₁).heap[_]? = _; rw [hTh]; exact hQ.2.2.1.2.1 _ (Nat.lt_of_lt_of_le (hG.2.1 k c9 hc9).1 hG.2.2.1) (Nat.not_le.mpr (hG.2.1 k c9 hc9).1))
    · show b ≤ (T.setVm vm₁).heap.size
      rw [hTh, hQ.2.1]
      exact Nat.le_add_right b _
    · show lm_Q D cl tc ad b _ σ.1 (T.setVm vm₁).heap []
      rw [hTh]
      refine ⟨hQ.1, hQ.2.1, ?_, hQ.2.2.2⟩
      have e9 : ((T.setVm vm₁).calling (F0 m pc ls (rest.map (lm_v ad))) mk (as.map (lm_v ad)).toArray).heap = H := hTh
      rw [e9]
      exact va_S.rf
  obtain ⟨o, t, L, k, n, hq, ⟨hL, rfl, rfl⟩, X₂, hcase⟩ := lm_call1 X₁ hM hn1 hmY1 hcY (a := (as.map (lm_v ad)).toArray) (fun w hw => word_at X₁.warmed (good_of_word (hgw w hw)) (hws w hw)) (word_at X₁.warmed (Or.inl (by first | rfl | simp [Cond.onTables, Cond.keeps, Cond.steady])) hini) (W := 20) hfr (by rw [hlY]; exact hlo) (by rw [hrc]; exact hc) (by rw [hrs]; exact hs) (g := F0 m pc ls (rest.map (lm_v ad))) rfl (hl.1.trans hml.symm) hdg
    (by show 2 * 0 + ((rest.map (lm_v ad)).map fun v => v.category).sum ≤ 20; rw [lm_cat_map]; have h9 : (rest.map fun v => v.category).sum ≤ 20 := hwt; omega) hPc (E := fun L k n => (∀ x ∈ L, b ≤ x.base) ∧ k = σ.2.1 - r.2.2.1 ∧ n = σ.2.2 - r.2.2.2)
    (fun o t hq => by
      obtain ⟨-, -, -, -, -, -, hw, -, -, L, hsb, hL⟩ := hq
      exact ⟨hw, L, _, _, hsb, hL, rfl, rfl⟩)
  obtain ⟨ho, hP', hz', hold, hlen', hok', hw', hn1', hn2', -⟩ := hq
  have hQ' : lm_Q D cl tc ad b s r.2.1 t.heap (locs ++ L) := by
    refine ⟨hP', hz', ⟨?_, fun q h1 h2 => ?_, fun x hx => ?_⟩, hlen', hok'⟩
    · exact X₂.heapGrown
    · have h3 : q < b := Nat.not_le.mp h2
      rw [hold q h3]
      show (T.setVm vm₁).heap[q]? = _
      rw [hTh]
      exact hQ.2.2.1.2.1 q h1 h2
    · rcases List.mem_append.mp hx with h9 | h9
      · exact hQ.2.2.1.2.2 x h9
      · exact hL x h9
  rcases hcase with ⟨v, rfl, hst⟩ | ⟨x, rfl, hst⟩
  · cases hr : r.1 with
    | error q => rw [hr] at ho; cases ho
    | ok v' =>
      rw [hr] at ho
      have ev : v = v'.map (lm_v ad) := by
        have := ho
        unfold lm_out at this
        exact Outcome.returned.inj this
      obtain ⟨t9, a1, b1⟩ := kok v' hr ls t.heap (locs ++ L) _ _ hl hQ' (by omega) (by omega) (lm_beh (T.setVm vm₁) t) rfl X₂
      refine ⟨t9, step t9 (fun acts => ?_), b1⟩
      rw [doInvoke_state]
      refine hst.trans ?_
      have e9 : v.toList ++ rest.map (lm_v ad) = (v'.toList ++ rest).map (lm_v ad) := by
        rw [ev, List.map_append]
        cases v' <;> rfl
      show Steps _ _ _ ((lm_beh (T.setVm vm₁) t).setTop (F0 m (pc + 3) ls (v.toList ++ rest.map (lm_v ad)))) t9
      rw [e9]
      exact a1
  · cases hr : r.1 with
    | ok v' => rw [hr] at ho; cases ho
    | error q =>
      rw [hr] at ho
      have ex : x = ad q := by
        have := ho
        unfold lm_out at this
        exact Outcome.threw.inj this
      subst ex
      obtain ⟨t9, a1, b1⟩ := kth q hr ls t.heap (locs ++ L) _ _ hl hQ' (by omega) (by omega) (lm_beh (T.setVm vm₁) t) rfl X₂
      refine ⟨t9, step t9 (fun acts => ?_), b1⟩
      rw [doInvoke_state]
      exact hst.trans a1
end LMS
