/-! ===== A REGION, A METHOD: a lite run is a run ===== -/
/-- a method: its name, code, locals, what it gives back, its handlers, its regions -/
abbrev lm_Y : Type := MethodName × ByteArray × Nat × Option FieldType × List (Nat × Nat) × List (Nat × List lm_E)
def lm_reg (rs : List (Nat × List lm_E)) (pc : Nat) : List lm_E := match rs.find? (fun q => Nat.beq q.1 pc) with
  | some q => q.2
  | none => []
def lm_room (fr lo : Nat) (σ : lm_S) : Room := { frames := fr, cells := σ.2.1, slots := σ.2.2, locals := lo }
theorem lm_asI_some {x : lm_M lm_R} {f : Int32 → lm_M lm_R} {σ : lm_S} {r : Except Nat lm_R × lm_S} (h : lm_bind (lm_asI x) f σ = some r) : (∃ q t, x σ = some (.error q, t) ∧ r = (.error q, t)) ∨ ∃ v t, x σ = some (.ok (some (.int v)), t) ∧ f v t = some r := by
  rcases lm_bind_some h with ⟨e, t, h1, h2⟩ | ⟨a, t, h1, h2⟩
  · rcases lm_bind_some h1 with ⟨e', t', h3, h4⟩ | ⟨v, t', h3, h4⟩
    · cases h4
      exact Or.inl ⟨e, t, h3, h2⟩
    · split at h4 <;> cases h4
  · rcases lm_bind_some h1 with ⟨e', t', h3, h4⟩ | ⟨v, t', h3, h4⟩
    · cases h4
    · split at h4
      · cases h4
        exact Or.inr ⟨_, _, h3, h2⟩
      · cases h4
theorem lm_asL_some {x : lm_M lm_R} {f : Int64 → lm_M lm_R} {σ : lm_S} {r : Except Nat lm_R × lm_S} (h : lm_bind (lm_asL x) f σ = some r) : (∃ q t, x σ = some (.error q, t) ∧ r = (.error q, t)) ∨ ∃ v t, x σ = some (.ok (some (.long v)), t) ∧ f v t = some r := by
  rcases lm_bind_some h with ⟨e, t, h1, h2⟩ | ⟨a, t, h1, h2⟩
  · rcases lm_bind_some h1 with ⟨e', t', h3, h4⟩ | ⟨v, t', h3, h4⟩
    · cases h4
      exact Or.inl ⟨e, t, h3, h2⟩
    · split at h4 <;> cases h4
  · rcases lm_bind_some h1 with ⟨e', t', h3, h4⟩ | ⟨v, t', h3, h4⟩
    · cases h4
    · split at h4
      · cases h4
        exact Or.inr ⟨_, _, h3, h2⟩
      · cases h4
theorem lm_asR_some {x : lm_M lm_R} {f : Nat → lm_M lm_R} {σ : lm_S} {r : Except Nat lm_R × lm_S} (h : lm_bind (lm_asR x) f σ = some r) : (∃ q t, x σ = some (.error q, t) ∧ r = (.error q, t)) ∨ ∃ v t, x σ = some (.ok (some (.ref v)), t) ∧ f v t = some r := by
  rcases lm_bind_some h with ⟨e, t, h1, h2⟩ | ⟨a, t, h1, h2⟩
  · rcases lm_bind_some h1 with ⟨e', t', h3, h4⟩ | ⟨v, t', h3, h4⟩
    · cases h4
      exact Or.inl ⟨e, t, h3, h2⟩
    · split at h4 <;> cases h4
  · rcases lm_bind_some h1 with ⟨e', t', h3, h4⟩ | ⟨v, t', h3, h4⟩
    · cases h4
    · split at h4
      · cases h4
        exact Or.inr ⟨_, _, h3, h2⟩
      · cases h4
theorem lm_asV_some {x : lm_M lm_R} {f : Unit → lm_M lm_R} {σ : lm_S} {r : Except Nat lm_R × lm_S} (h : lm_bind (lm_asV x) f σ = some r) : (∃ q t, x σ = some (.error q, t) ∧ r = (.error q, t)) ∨ ∃ t, x σ = some (.ok none, t) ∧ f () t = some r := by
  rcases lm_bind_some h with ⟨e, t, h1, h2⟩ | ⟨a, t, h1, h2⟩
  · rcases lm_bind_some h1 with ⟨e', t', h3, h4⟩ | ⟨v, t', h3, h4⟩
    · cases h4
      exact Or.inl ⟨e, t, h3, h2⟩
    · split at h4 <;> cases h4
  · rcases lm_bind_some h1 with ⟨e', t', h3, h4⟩ | ⟨v, t', h3, h4⟩
    · cases h4
    · split at h4
      · cases h4
        exact Or.inr ⟨_, h3, h2⟩
      · cases h4
theorem lm_try_some {α : Type} {x : lm_M α} {hs : List (Nat × Nat)} {ok : α → lm_M lm_R} {ca : Nat → Nat → lm_M lm_R} {σ : lm_S} {r : Except Nat lm_R × lm_S} (h : lm_try x hs ok ca σ = some r) : (∃ q t hp, x σ = some (.error q, t) ∧ lm_find hs (lm_cls t.1 q) = some hp ∧ ca hp q t = some r) ∨ ∃ v t, x σ = some (.ok v, t) ∧ ok v t = some r := by
  unfold lm_try at h
  split at h
  · cases h
  · rename_i a t h1
    exact Or.inr ⟨a, t, h1, h⟩
  · rename_i q t h1
    split at h
    · rename_i hp hf
      exact Or.inl ⟨q, t, hp, h1, hf, h⟩
    · cases h
/-- what a call's run says -/
theorem lm_inv_cases {x : lm_M lm_R} {hs : List (Nat × Nat)} {rk : Nat} {ok : List Value → lm_M lm_R} {ca : Nat → Nat → lm_M lm_R} {σ : lm_S} {r : Except Nat lm_R × lm_S} (h : lm_inv x hs rk ok ca σ = some r) :
    (∃ q t, x σ = some (.error q, t) ∧ ((hs = [] ∧ r = (.error q, t)) ∨ ∃ hp, lm_find hs (lm_cls t.1 q) = some hp ∧ ca hp q t = some r)) ∨ ∃ v t, x σ = some (.ok v, t) ∧ ok v.toList t = some r := by
  unfold lm_inv at h
  cases hs with
  | nil =>
    dsimp only at h
    split at h
    · rcases lm_asV_some h with ⟨q, t, h1, h2⟩ | ⟨t, h1, h2⟩
      · exact Or.inl ⟨q, t, h1, Or.inl ⟨rfl, h2⟩⟩
      · exact Or.inr ⟨none, t, h1, h2⟩
    · rcases lm_asI_some h with ⟨q, t, h1, h2⟩ | ⟨v, t, h1, h2⟩
      · exact Or.inl ⟨q, t, h1, Or.inl ⟨rfl, h2⟩⟩
      · exact Or.inr ⟨some (.int v), t, h1, h2⟩
    · rcases lm_asL_some h with ⟨q, t, h1, h2⟩ | ⟨v, t, h1, h2⟩
      · exact Or.inl ⟨q, t, h1, Or.inl ⟨rfl, h2⟩⟩
      · exact Or.inr ⟨some (.long v), t, h1, h2⟩
    · rcases lm_asR_some h with ⟨q, t, h1, h2⟩ | ⟨v, t, h1, h2⟩
      · exact Or.inl ⟨q, t, h1, Or.inl ⟨rfl, h2⟩⟩
      · exact Or.inr ⟨some (.ref v), t, h1, h2⟩
  | cons hh hs =>
    dsimp only at h
    split at h
    · rcases lm_try_some h with ⟨q, t, hp, h1, h2, h3⟩ | ⟨v, t, h1, h3⟩
      · rcases lm_bind_some h1 with ⟨e', t', h4, h5⟩ | ⟨v, t', h4, h5⟩
        · cases h5
          exact Or.inl ⟨q, t, h4, Or.inr ⟨hp, h2, h3⟩⟩
        · split at h5 <;> cases h5
      · rcases lm_bind_some h1 with ⟨e', t', h4, h5⟩ | ⟨v', t', h4, h5⟩
        · cases h5
        · split at h5
          · cases h5
            exact Or.inr ⟨_, _, h4, h3⟩
          · cases h5
    · rcases lm_try_some h with ⟨q, t, hp, h1, h2, h3⟩ | ⟨v, t, h1, h3⟩
      · rcases lm_bind_some h1 with ⟨e', t', h4, h5⟩ | ⟨v, t', h4, h5⟩
        · cases h5
          exact Or.inl ⟨q, t, h4, Or.inr ⟨hp, h2, h3⟩⟩
        · split at h5 <;> cases h5
      · rcases lm_bind_some h1 with ⟨e', t', h4, h5⟩ | ⟨v', t', h4, h5⟩
        · cases h5
        · split at h5
          · cases h5
            exact Or.inr ⟨_, _, h4, h3⟩
          · cases h5
    · rcases lm_try_some h with ⟨q, t, hp, h1, h2, h3⟩ | ⟨v, t, h1, h3⟩
      · rcases lm_bind_some h1 with ⟨e', t', h4, h5⟩ | ⟨v, t', h4, h5⟩
        · cases h5
          exact Or.inl ⟨q, t, h4, Or.inr ⟨hp, h2, h3⟩⟩
        · split at h5 <;> cases h5
      · rcases lm_bind_some h1 with ⟨e', t', h4, h5⟩ | ⟨v', t', h4, h5⟩
        · cases h5
        · split at h5
          · cases h5
            exact Or.inr ⟨_, _, h4, h3⟩
          · cases h5
    · rcases lm_try_some h with ⟨q, t, hp, h1, h2, h3⟩ | ⟨v, t, h1, h3⟩
      · rcases lm_bind_some h1 with ⟨e', t', h4, h5⟩ | ⟨v, t', h4, h5⟩
        · cases h5
          exact Or.inl ⟨q, t, h4, Or.inr ⟨hp, h2, h3⟩⟩
        · split at h5 <;> cases h5
      · rcases lm_bind_some h1 with ⟨e', t', h4, h5⟩ | ⟨v', t', h4, h5⟩
        · cases h5
        · split at h5
          · cases h5
            exact Or.inr ⟨_, _, h4, h3⟩
          · cases h5
section LMB
variable {p : Program} {l : Launch} {e : Env} {R : Room} {s : State} {m : MethodId} {args : Array Value} {below : List Frame} {meth : Method} {c : Code} {D : va_G} {cl : List vw_C} {tc : Nat → ClassId} {ad : Nat → Nat} {sc : lm_H} {b nL : Nat} {Q : State → Prop} {cc : ByteArray} {own : String} {ret : Option FieldType} {gs : Nat → Nat → Prop} {dfs : List (List Value)} {ρ : Nat → List Value → lm_M lm_R} {vts : List (Nat × Nat × List (Nat × Nat))} {hs : List (Nat × Nat)} {P : List lm_Y}
/-- an instruction of a region, as the method's class has it -/
def lm_okE (p : Program) (l : Launch) (e : Env) (R : Room) (s : State) (m : MethodId) (args : Array Value) (below : List Frame) (meth : Method) (c : Code) (D : va_G) (cl : List vw_C) (tc : Nat → ClassId) (ad : Nat → Nat) (b nL : Nat) (cc : ByteArray) (own : String) (ret : Option FieldType) (gs : Nat → Nat → Prop) (dfs : List (List Value)) (vts : List (Nat × Nat × List (Nat × Nat))) (hs : List (Nat × Nat)) (P : List lm_Y) (en : lm_E) : Prop :=
  match en.2.1 with
  | .invokeinterface y k => en.2.2.1 = 3 ∧ ((hs = [] ∧ ∀ x ∈ c.exceptionTable.toList, covers x en.1 = false) ∨ lm_hrows own args s cl en.1 c.exceptionTable.toList hs) ∧ ∃ Y, P[y]? = some Y ∧ (Cond.initialized Y.1.cls).before args s = true ∧ ∀ as rest h, as.length = k / 4 → lm_Lk p l e R s m args below meth c D cl tc ad b (Y.1) (Y.2.2.1) (en.1) (as) (rest) (h)
  | .invokevirtual v => en.2.2.1 = 3 ∧ ((hs = [] ∧ ∀ x ∈ c.exceptionTable.toList, covers x en.1 = false) ∨ lm_hrows own args s cl en.1 c.exceptionTable.toList hs) ∧ ∀ w, vts[v]? = some w → ∀ ci y, (ci, y) ∈ w.2.2 → ∃ Y, P[y]? = some Y ∧ (Cond.initialized Y.1.cls).before args s = true ∧ ∀ q as rest h fs, as.length + 1 = w.1 → q < lm_B → h[q]? = some (.inr (.inr (.inr (ci, fs)))) → lm_Lk p l e R s m args below meth c D cl tc ad b (Y.1) (Y.2.2.1) (en.1) (.ref q :: as) (rest) (h)
  | .jsr k => lm_okT own args s cl c cc en.1 k.toNat
  | ins => lm_okI own args s meth cl dfs cc ret nL gs en.1 en.2.2.1 ins
theorem lm_Sim_keep {pc : Nat} {lv : lm_L} {st : List Value} {σ : lm_S} (ks : List Nat) (k : lm_Sim p l e R s m args below meth c D cl tc ad b nL Q (pc) (lm_keep ks lv) (st) σ) : lm_Sim p l e R s m args below meth c D cl tc ad b nL Q (pc) (lv) (st) σ :=
  fun ls H locs cells slots hl hQ hc hs => k ls H locs cells slots (lm_keep_has ks hl) hQ hc hs
theorem lm_find_mem {hs : List (Nat × Nat)} {ci h : Nat} (hf : lm_find hs (some ci) = some h) : (ci, h) ∈ hs := by
  have h9 : (hs.find? (fun q => Nat.beq q.1 ci)).map (fun q => q.2) = some h := hf
  cases hq : hs.find? (fun q => Nat.beq q.1 ci) with
  | none => rw [hq] at h9; cases h9
  | some q =>
    rw [hq] at h9
    have e1 : q.2 = h := Option.some.inj h9
    have e2 : q.1 = ci := Nat.eq_of_beq_eq_true (List.find?_some (p := fun q : Nat × Nat => Nat.beq q.1 ci) hq)
    rw [← e1, ← e2]
    exact List.mem_of_find?_eq_some hq
set_option maxHeartbeats 1000000 in
theorem lm_blk_ok (hx : p.tables.exec = Jvm.exec) (hb : c.code = cc) (hml : c.maxLocals = nL) (hown : s.vm.findClass own = some m.cls) (hG : lm_G D cl tc ad sc b s) (htr : e.platform.stackTraces = false) (hlocks : meth.locks = false) (hinj : ∀ (i j : Nat) (n : String) (T U : u_T), cl[i]? = some (n, T, 0) → cl[j]? = some (n, U, 0) → i = j)
    {fr lo : Nat} {ws : List Cond} (hws : ∀ w ∈ ws, w.before args s = true) (hgw : ∀ w ∈ ws, goodWord w = true) (hR : 20 ≤ R.frames ∧ fr + 1 ≤ R.frames ∧ 131 + lo ≤ R.locals ∧ 200 ≤ R.locals ∧ 20 + (nativeFrameWords "java/lang/System" "arraycopy" 5 + 11) ≤ R.locals) (hPm : ∀ (y : Nat) (Y : lm_Y), P[y]? = some Y → Y.2.2.1 ≤ 100)
    (hgs : ∀ idx k pc lv st σ, gs idx k → decode cc pc = .ok (.getstatic idx, 3) → lm_Sim p l e R s m args below meth c D cl tc ad b nL Q (pc + 3) (lv) (.ref (lm_B + k) :: st) σ → lm_Sim p l e R s m args below meth c D cl tc ad b nL Q (pc) (lv) (st) σ)
    (hρ : ∀ (y : Nat) (Y : lm_Y) (as : List Value) (σ : lm_S) (r : Except Nat lm_R × lm_S), P[y]? = some Y → ρ y as σ = some r → MetFree l Y.1 (headSpec ws (lm_room fr lo σ)) (lm_Pc D cl tc ad sc b as σ.1) (fun _ _ _ _ _ => True) (lm_Qc D cl tc ad b σ r))
    {r : Except Nat lm_R × lm_S} {back : lm_F → lm_M lm_R} (kb : ∀ f σ', back f σ' = some r → lm_Sim p l e R s m args below meth c D cl tc ad b nL Q (f.1) (f.2.1) (f.2.2) σ')
    (kr : ∀ pc lv v σ', r = (.ok v, σ') → lm_okR cc ret pc v → lm_Sim p l e R s m args below meth c D cl tc ad b nL Q (pc) (lv) (v.toList) σ')
    (kthr : ∀ q σ', r = (.error q, σ') → ∀ (U : State) (locs : List Loc) (cells slots : Nat), U.status = .running → Ended U below (.threw (ad q)) → s.WarmedH U.vm → lm_Q D cl tc ad b s σ'.1 U.heap locs → s.sameButNew ({ U with vm := s.vm } : State) locs cells slots → cells + σ'.2.1 ≤ R.cells → slots + σ'.2.2 ≤ R.slots → Q U) :
    ∀ (es : List lm_E), (∀ en ∈ es, lm_okE p l e R s m args below meth c D cl tc ad b nL cc own ret gs dfs vts hs P en) → ∀ t lv st σ, lm_blk sc ρ vts dfs hs back es t lv st σ = some r → lm_Sim p l e R s m args below meth c D cl tc ad b nL Q (t) (lv) (st) σ := by
  intro es
  induction es with
  | nil => intro _ t lv st σ h; cases h
  | cons en es ih =>
    intro hE t lv st σ h
    have ih := ih (fun x hx => hE x (List.mem_cons_of_mem _ hx))
    have hen := hE en List.mem_cons_self
    have h : cond (Nat.beq en.1 t) (lm_ins sc ρ vts dfs hs en.2.1 en.1 lv st (lm_go back (lm_blk sc ρ vts dfs hs back es) en.2.2.2.2 (en.1 + en.2.2.1)) (lm_go back (lm_blk sc ρ vts dfs hs back es) en.2.2.2.1)) (lm_blk sc ρ vts dfs hs back es t lv st) σ = some r := h
    have kgo : ∀ o u lv' st' σ', lm_go back (lm_blk sc ρ vts dfs hs back es) o u lv' st' σ' = some r → lm_Sim p l e R s m args below meth c D cl tc ad b nL Q (u) (lv') (st') σ' := fun o u lv' st' σ' h9 => by
      cases o with
      | none => exact ih u lv' st' σ' h9
      | some ks => exact lm_Sim_keep ks (kb (u, lm_keep ks lv', st') σ' h9)
    cases hq : Nat.beq en.1 t with
    | false =>
      rw [hq] at h
      exact ih t lv st σ h
    | true =>
      rw [hq] at h
      have et : en.1 = t := Nat.eq_of_beq_eq_true hq
      subst et
      have h : lm_ins sc ρ vts dfs hs en.2.1 en.1 lv st (lm_go back (lm_blk sc ρ vts dfs hs back es) en.2.2.2.2 (en.1 + en.2.2.1)) (lm_go back (lm_blk sc ρ vts dfs hs back es) en.2.2.2.1) σ = some r := h
      have kcall : ∀ (Y : lm_Y) (y : Nat) (as rest : List Value) (rk : Nat), P[y]? = some Y → (Cond.initialized Y.1.cls).before args s = true → en.2.2.1 = 3 → ((hs = [] ∧ ∀ x ∈ c.exceptionTable.toList, covers x en.1 = false) ∨ lm_hrows own args s cl en.1 c.exceptionTable.toList hs) → lm_wt rest ≤ 20 → lm_Lk p l e R s m args below meth c D cl tc ad b (Y.1) (Y.2.2.1) (en.1) (as) (rest) (σ.1) →
          lm_inv (ρ y as) hs rk (fun r => lm_go back (lm_blk sc ρ vts dfs hs back es) en.2.2.2.2 (en.1 + en.2.2.1) lv (r ++ rest)) (fun h q => lm_go back (lm_blk sc ρ vts dfs hs back es) en.2.2.2.1 h lv [.ref q]) σ = some r → lm_Sim p l e R s m args below meth c D cl tc ad b nL Q (en.1) (lv) (as.reverse ++ rest) σ := by
        intro Y y as rest rk hY hini hlen hhs hwt hlk hinv
        rcases lm_inv_cases hinv with ⟨q, t, h1, h2⟩ | ⟨v, t, h1, h2⟩
        · refine lm_simCall hml hG hws hgw hini (hρ y Y as σ _ hY h1) rfl rfl hR.2.1 (by have := hPm y Y hY; show 20 + (Y.2.2.1 + 11) + lo ≤ _; have := hR.2.2.1; omega) hwt hlk (fun v hv => by cases hv) (fun q' hq' => ?_)
          cases hq'
          rcases h2 with ⟨h3, h4⟩ | ⟨hp, h3, h4⟩
          · rcases hhs with ⟨-, hout⟩ | hrows
            · exact lm_simLeave hlocks hout (kthr q t h4)
            · subst h3
              have e0 : c.exceptionTable.toList = [] := by
                cases hc9 : c.exceptionTable.toList with
                | nil => rfl
                | cons x xs => rw [hc9] at hrows; exact hrows.elim
              exact lm_simLeave hlocks (by rw [e0]; intro x hx; cases hx) (kthr q t h4)
          · rcases hhs with ⟨h5, -⟩ | hrows
            · subst h5
              cases hcc : lm_cls t.1 q <;> rw [hcc] at h3 <;> cases h3
            · exact lm_simCatch hown hG hinj hrows h3 (kgo _ _ _ _ _ h4)
        · refine lm_simCall hml hG hws hgw hini (hρ y Y as σ _ hY h1) rfl rfl hR.2.1 (by have := hPm y Y hY; show 20 + (Y.2.2.1 + 11) + lo ≤ _; have := hR.2.2.1; omega) hwt hlk (fun v' hv' => ?_) (fun q hq => by cases hq)
          cases hv'
          have h3 := kgo _ _ _ _ _ h2
          rw [hlen] at h3
          exact h3
      unfold lm_okE at hen
      split at hen
      · rename_i y k hins
        rw [hins] at h
        obtain ⟨hlen, hhs, Y, hY, hini, hlk⟩ := hen
        obtain ⟨hn, h⟩ := lm_cond_some h
        obtain ⟨hwt, h⟩ := lm_cond_some h
        have hn : k / 4 ≤ st.length := Nat.le_of_ble_eq_true hn
        have h9 := kcall Y y (st.take (k / 4)).reverse (st.drop (k / 4)) (k % 4) hY hini hlen hhs (Nat.le_of_ble_eq_true hwt) (hlk _ _ _ (by rw [List.length_reverse, List.length_take]; omega)) h
        rw [List.reverse_reverse, List.take_append_drop] at h9
        exact h9
      · rename_i v hins
        rw [hins] at h
        obtain ⟨hlen, hhs, hlk⟩ := hen
        obtain ⟨w, hw, h⟩ := lm_opt_some h
        obtain ⟨hn, h⟩ := lm_cond_some h
        obtain ⟨hwt, h⟩ := lm_cond_some h
        have hn : w.1 ≤ st.length := Nat.le_of_ble_eq_true hn
        rcases lm_bind_some h with ⟨e9, t9, h1, -⟩ | ⟨y, t9, h1, h2⟩
        · unfold lm_sel at h1
          split at h1
          · split at h1 <;> cases h1
          · cases h1
        · unfold lm_sel at h1
          split at h1
          · rename_i q hhead
            split at h1
            · rename_i y' hf
              cases h1
              cases hci : lm_cls σ.1 q with
              | none => rw [hci] at hf; cases hf
              | some ci =>
                rw [hci] at hf
                obtain ⟨Y, hY, hini, hlk⟩ := hlk w hw ci y (lm_find_mem hf)
                unfold lm_cls at hci
                split at hci
                · rename_i c9 fs hcell
                  split at hci
                  · rename_i hqB
                    cases hci
                    obtain ⟨as', has⟩ : ∃ as', (st.take w.1).reverse = .ref q :: as' := by
                      cases hs9 : (st.take w.1).reverse with
                      | nil => rw [hs9] at hhead; cases hhead
                      | cons a0 as0 => rw [hs9] at hhead; cases hhead; exact ⟨as0, rfl⟩
                    have hl9 : as'.length + 1 = w.1 := by
                      have h8 := congrArg List.length has
                      rw [List.length_reverse, List.length_take, List.length_cons] at h8
                      omega
                    have h9 := kcall Y y (st.take w.1).reverse (st.drop w.1) w.2.1 hY hini hlen hhs (Nat.le_of_ble_eq_true hwt) (by rw [has]; exact hlk q as' _ σ.1 fs hl9 hqB hcell) h2
                    rw [List.reverse_reverse, List.take_append_drop] at h9
                    exact h9
                  · cases hci
                · cases hci
            · cases h1
          · cases h1
      · rename_i k hins
        rw [hins] at h
        obtain ⟨hwt, h⟩ := lm_cond_some h
        exact lm_simThrow hx hb hml hown hG htr hlocks hR.1 hR.2.2.2.1 hen (Nat.le_of_ble_eq_true hwt) h (fun q σ' hr9 U locs cells slots a1 a2 a3 a4 a5 a6 a7 => kthr q σ' hr9 U locs cells slots a1 a2 a3 a4 a5 a6 a7)
      · exact lm_ins_ok hx hb hml hown hG ⟨by omega, hR.2.2.2.2, by omega⟩ hgs hen h (fun lv' st' σ' h9 => kgo _ _ _ _ _ h9) (fun t' lv' st' σ' h9 => kgo _ _ _ _ _ h9) (fun v σ' hr9 hok9 => kr en.1 lv v σ' hr9 hok9)
end LMB
