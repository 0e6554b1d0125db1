/-! ===== ONE INSTRUCTION, whichever (calls and throws apart) ===== -/
def lm_okI (own : String) (args : Array Value) (s : State) (meth : Method) (cl : List vw_C) (dfs : List (List Value)) (cc : ByteArray) (ret : Option FieldType) (nL : Nat) (gs : Nat → Nat → Prop) (pc len : Nat) (ins : Instr) : Prop :=
  match ins with
  | .iconst v => (decode cc pc = .ok (.iconst v, 1) ∧ len = 1) ∨ (∃ n, decode cc pc = .ok (.bipush n, 2) ∧ len = 2 ∧ (Int8.ofInt n).toInt32 = Int32.ofInt v) ∨ (∃ n, decode cc pc = .ok (.sipush n, 3) ∧ len = 3 ∧ (Int16.ofInt n).toInt32 = Int32.ofInt v) ∨ (∃ n, decode cc pc = .ok (.ldc n, 2) ∧ len = 2 ∧ (Cond.constant own n (Int32.ofInt v)).before args s = true) ∨ (∃ n, decode cc pc = .ok (.ldc_w n, 3) ∧ len = 3 ∧ (Cond.constant own n (Int32.ofInt v)).before args s = true)
  | .ldc2_w v => (∃ n : Fin 2, decode cc pc = .ok (.lconst n, 1) ∧ len = 1 ∧ n.val = v) ∨ (∃ n, decode cc pc = .ok (.ldc2_w n, 3) ∧ len = 3 ∧ (Cond.constantLong own n (Int64.ofNat v)).before args s = true)
  | .iload i => (decode cc pc = .ok (.iload i, 2) ∧ len = 2) ∨ (∃ n : Fin 4, decode cc pc = .ok (.iload_n n, 1) ∧ len = 1 ∧ n.val = i)
  | .lload i => (decode cc pc = .ok (.lload i, 2) ∧ len = 2) ∨ (∃ n : Fin 4, decode cc pc = .ok (.lload_n n, 1) ∧ len = 1 ∧ n.val = i)
  | .aload i => (decode cc pc = .ok (.aload i, 2) ∧ len = 2) ∨ (∃ n : Fin 4, decode cc pc = .ok (.aload_n n, 1) ∧ len = 1 ∧ n.val = i)
  | .istore i => i < nL ∧ ((decode cc pc = .ok (.istore i, 2) ∧ len = 2) ∨ (∃ n : Fin 4, decode cc pc = .ok (.istore_n n, 1) ∧ len = 1 ∧ n.val = i))
  | .lstore i => i + 1 < nL ∧ ((decode cc pc = .ok (.lstore i, 2) ∧ len = 2) ∨ (∃ n : Fin 4, decode cc pc = .ok (.lstore_n n, 1) ∧ len = 1 ∧ n.val = i))
  | .astore i => i < nL ∧ ((decode cc pc = .ok (.astore i, 2) ∧ len = 2) ∨ (∃ n : Fin 4, decode cc pc = .ok (.astore_n n, 1) ∧ len = 1 ∧ n.val = i))
  | .iinc i n => i < nL ∧ ((decode cc pc = .ok (.iinc i n, 3) ∧ len = 3) ∨ (decode cc pc = .ok (.iinc i n, 6) ∧ len = 6))
  | .if_icmp _ off => decode cc pc = .ok (ins, 3) ∧ len = 3 ∧ 0 ≤ (pc : Int) + off
  | .ifCond _ off => decode cc pc = .ok (ins, 3) ∧ len = 3 ∧ 0 ≤ (pc : Int) + off
  | .if_acmp _ off => decode cc pc = .ok (ins, 3) ∧ len = 3 ∧ 0 ≤ (pc : Int) + off
  | .goto off => decode cc pc = .ok (ins, 3) ∧ len = 3 ∧ 0 ≤ (pc : Int) + off
  | .tableswitch d _ _ offs => (∃ n, decode cc pc = .ok (ins, n)) ∧ 0 ≤ (pc : Int) + d ∧ ∀ off ∈ offs.toList, 0 ≤ (pc : Int) + off
  | .getfield f => ∃ idx ref, decode cc pc = .ok (.getfield idx, 3) ∧ len = 3 ∧ lm_fl own args s cl idx ref f
  | .putfield f => ∃ idx ref, decode cc pc = .ok (.putfield idx, 3) ∧ len = 3 ∧ lm_fl own args s cl idx ref f ∧ lm_fp own args s meth cl f
  | .getstatic k => ∃ idx, decode cc pc = .ok (.getstatic idx, 3) ∧ len = 3 ∧ gs idx k
  | .new ci => ∃ idx, decode cc pc = .ok (.new idx, 3) ∧ len = 3 ∧ ∀ fs, dfs[ci]? = some fs → lm_nw own args s cl idx ci fs
  | .newarray t => decode cc pc = .ok (.newarray t, 2) ∧ len = 2 ∧ (Cond.arrayClass (newarray.typeOf t)).before args s = true
  | .anewarray _ => ∃ idx, decode cc pc = .ok (.anewarray idx, 3) ∧ len = 3 ∧ (Cond.classLink own idx "LatticeSuite$Bytes").before args s = true ∧ (Cond.arrayOver (.object "LatticeSuite$Bytes")).before args s = true
  | .multianewarray t _ => ∃ idx ty, decode cc pc = .ok (.multianewarray idx 2, 4) ∧ len = 4 ∧ (Cond.classLink own idx ("[" ++ (FieldType.array ty).toString)).before args s = true ∧ (Cond.arrayOver (.array ty)).before args s = true ∧ (Cond.arrayClass ty).before args s = true ∧ ((t = 3 ∧ ty = .int) ∨ (t = 4 ∧ ty = .byte) ∨ (t = 5 ∧ ty = .boolean))
  | .monitorexit => ∃ idx, decode cc pc = .ok (.invokespecial idx, 3) ∧ len = 3 ∧ (Cond.methodLink own idx Lib.objectInit).before args s = true ∧ (Cond.instanceMethod Lib.objectInit).before args s = true ∧ (Cond.code Lib.objectInit ⟨#[0xb1]⟩ 1 none).before args s = true
  | .monitorenter => ∃ idx, decode cc pc = .ok (.invokestatic idx, 3) ∧ len = 3 ∧ (Cond.methodLink own idx arraycopyName).before args s = true ∧ (Cond.native arraycopyName).before args s = true ∧ (Cond.static arraycopyName).before args s = true ∧ (Cond.initialized "java/lang/System").before args s = true
  | .aastore => decode cc pc = .ok (.aastore, 1) ∧ len = 1 ∧ ∃ T N, cl[lm_kBytes]? = some ("LatticeSuite$Bytes", T, N)
  | .ireturn => decode cc pc = .ok (.ireturn, 1) ∧ ret = some .int
  | .ret _ => decode cc pc = .ok (.ireturn, 1) ∧ ret = some .boolean
  | .lreturn => decode cc pc = .ok (.lreturn, 1) ∧ ret = some .long
  | .areturn => decode cc pc = .ok (.areturn, 1) ∧ ((∃ n, ret = some (.object n)) ∨ ∃ t, ret = some (.array t))
  | .return_ => decode cc pc = .ok (.return_, 1) ∧ ret = none
  | .invokeinterface _ _ => False
  | .invokevirtual _ => False
  | .jsr _ => False
  | ins => decode cc pc = .ok (ins, 1) ∧ len = 1
/-- the return instruction at pc gives back v -/
def lm_okR (cc : ByteArray) (ret : Option FieldType) (pc : Nat) (v : Option Value) : Prop :=
  (∃ x, v = some (.int x) ∧ decode cc pc = .ok (.ireturn, 1) ∧ (ret = some .int ∨ (ret = some .boolean ∧ (x = 0 ∨ x = 1)))) ∨ (∃ x, v = some (.long x) ∧ decode cc pc = .ok (.lreturn, 1) ∧ ret = some .long) ∨ (∃ x, v = some (.ref x) ∧ decode cc pc = .ok (.areturn, 1) ∧ ((∃ n, ret = some (.object n)) ∨ ∃ t, ret = some (.array t))) ∨ (v = none ∧ decode cc pc = .ok (.return_, 1) ∧ ret = none)
theorem lm_opt_some {α : Type} {o : Option α} {f : α → lm_M lm_R} {σ : lm_S} {r : Except Nat lm_R × lm_S} (h : lm_opt o f σ = some r) : ∃ a, o = some a ∧ f a σ = some r := by
  unfold lm_opt at h
  split at h
  · exact ⟨_, rfl, h⟩
  · cases h
theorem lm_ldI_some {o : Option Value} {f : Int32 → lm_M lm_R} {σ : lm_S} {r : Except Nat lm_R × lm_S} (h : lm_ldI o f σ = some r) : ∃ x, o = some (.int x) ∧ f x σ = some r := by
  unfold lm_ldI at h
  split at h
  · exact ⟨_, rfl, h⟩
  · cases h
theorem lm_ldL_some {o : Option Value} {f : Int64 → lm_M lm_R} {σ : lm_S} {r : Except Nat lm_R × lm_S} (h : lm_ldL o f σ = some r) : ∃ x, o = some (.long x) ∧ f x σ = some r := by
  unfold lm_ldL at h
  split at h
  · exact ⟨_, rfl, h⟩
  · cases h
theorem lm_ldR_some {o : Option Value} {f : Nat → lm_M lm_R} {σ : lm_S} {r : Except Nat lm_R × lm_S} (h : lm_ldR o f σ = some r) : ∃ x, o = some (.ref x) ∧ f x σ = some r := by
  unfold lm_ldR at h
  split at h
  · exact ⟨_, rfl, h⟩
  · cases h
theorem lm_oneI_some {o : List Value} {f : Int32 → lm_M lm_R} {σ : lm_S} {r : Except Nat lm_R × lm_S} (h : lm_oneI o f σ = some r) : ∃ x, o = [.int x] ∧ f x σ = some r := by
  unfold lm_oneI at h
  split at h
  · exact ⟨_, rfl, h⟩
  · cases h
theorem lm_oneL_some {o : List Value} {f : Int64 → lm_M lm_R} {σ : lm_S} {r : Except Nat lm_R × lm_S} (h : lm_oneL o f σ = some r) : ∃ x, o = [.long x] ∧ f x σ = some r := by
  unfold lm_oneL at h
  split at h
  · exact ⟨_, rfl, h⟩
  · cases h
theorem lm_oneR_some {o : List Value} {f : Nat → lm_M lm_R} {σ : lm_S} {r : Except Nat lm_R × lm_S} (h : lm_oneR o f σ = some r) : ∃ x, o = [.ref x] ∧ f x σ = some r := by
  unfold lm_oneR at h
  split at h
  · exact ⟨_, rfl, h⟩
  · cases h
theorem lm_none_some {o : List Value} {f : lm_M lm_R} {σ : lm_S} {r : Except Nat lm_R × lm_S} (h : lm_none o f σ = some r) : o = [] ∧ f σ = some r := by
  unfold lm_none at h
  split at h
  · exact ⟨rfl, h⟩
  · cases h
theorem lm_when_some {q : Prop} {d : Decidable q} {f : lm_M lm_R} {σ : lm_S} {r : Except Nat lm_R × lm_S} (h : lm_when q d f σ = some r) : q ∧ f σ = some r := by
  unfold lm_when at h
  by_cases hq : q
  · rw [if_pos hq] at h
    exact ⟨hq, h⟩
  · rw [if_neg hq] at h
    cases h
theorem lm_if_pos {c : Jvm.ClassFile.Cond} {x y : Int32} {a b : lm_M lm_R} (h : lm_cmp c x y) : lm_if c x y a b = a := @if_pos _ (lm_cmpD c x y) h _ _ _
theorem lm_if_neg {c : Jvm.ClassFile.Cond} {x y : Int32} {a b : lm_M lm_R} (h : ¬ lm_cmp c x y) : lm_if c x y a b = b := @if_neg _ (lm_cmpD c x y) h _ _ _
theorem lm_cond_some {q : Bool} {f : lm_M lm_R} {σ : lm_S} {r : Except Nat lm_R × lm_S} (h : cond q f lm_bad σ = some r) : q = true ∧ f σ = some r := by
  cases q
  · cases h
  · exact ⟨rfl, h⟩
theorem lm_tgt_ok {pc : Nat} {off : Int} (h : 0 ≤ (pc : Int) + off) : (pc : Int) + off = ((lm_tgt pc off : Nat) : Int) := (Int.toNat_of_nonneg h).symm
theorem lm_k4_cases {k : Nat} {a b c d : lm_M lm_R} {σ : lm_S} {r : Except Nat lm_R × lm_S} (h : lm_k4 k a b c d σ = some r) : a σ = some r ∨ b σ = some r ∨ c σ = some r ∨ d σ = some r := by
  unfold lm_k4 at h
  split at h
  · exact Or.inl h
  · exact Or.inr (Or.inl h)
  · exact Or.inr (Or.inr (Or.inl h))
  · exact Or.inr (Or.inr (Or.inr h))
theorem lm_bind_some {α β : Type} {x : lm_M α} {f : α → lm_M β} {σ : lm_S} {r : Except Nat β × lm_S} (h : lm_bind x f σ = some r) : (∃ e t, x σ = some (.error e, t) ∧ r = (.error e, t)) ∨ ∃ a t, x σ = some (.ok a, t) ∧ f a t = some r := by
  unfold lm_bind at h
  split at h
  · cases h
  · rename_i e t he
    exact Or.inl ⟨e, t, he, (Option.some.inj h).symm⟩
  · rename_i a t he
    exact Or.inr ⟨a, t, he, h⟩
theorem lm_iald_ne (sc : lm_H) (q : Nat) (i : Int32) (σ : lm_S) : ∀ e t, lm_iald sc q i σ ≠ some (.error e, t) := by
  intro e t h
  unfold lm_iald at h
  repeat' split at h
  all_goals cases h
theorem lm_bald_ne (sc : lm_H) (q : Nat) (i : Int32) (σ : lm_S) : ∀ e t, lm_bald sc q i σ ≠ some (.error e, t) := by
  intro e t h
  unfold lm_bald at h
  repeat' split at h
  all_goals cases h
theorem lm_lald_ne (sc : lm_H) (q : Nat) (i : Int32) (σ : lm_S) : ∀ e t, lm_lald sc q i σ ≠ some (.error e, t) := by
  intro e t h
  unfold lm_lald at h
  repeat' split at h
  all_goals cases h
theorem lm_aald_ne (sc : lm_H) (q : Nat) (i : Int32) (σ : lm_S) : ∀ e t, lm_aald sc q i σ ≠ some (.error e, t) := by
  intro e t h
  unfold lm_aald at h
  repeat' split at h
  all_goals cases h
theorem lm_alen_ne (sc : lm_H) (q : Nat) (σ : lm_S) : ∀ e t, lm_alen sc q σ ≠ some (.error e, t) := by
  intro e t h
  unfold lm_alen at h
  repeat' split at h
  all_goals cases h
theorem lm_iast_ne (q : Nat) (i x : Int32) (σ : lm_S) : ∀ e t, lm_iast q i x σ ≠ some (.error e, t) := by
  intro e t h
  unfold lm_iast at h
  repeat' split at h
  all_goals cases h
theorem lm_bast_ne (q : Nat) (i x : Int32) (σ : lm_S) : ∀ e t, lm_bast q i x σ ≠ some (.error e, t) := by
  intro e t h
  unfold lm_bast at h
  repeat' split at h
  all_goals cases h
theorem lm_last_ne (q : Nat) (i : Int32) (x : Int64) (σ : lm_S) : ∀ e t, lm_last q i x σ ≠ some (.error e, t) := by
  intro e t h
  unfold lm_last at h
  repeat' split at h
  all_goals cases h
theorem lm_aast_ne (q : Nat) (i : Int32) (x : Nat) (σ : lm_S) : ∀ e t, lm_aast q i x σ ≠ some (.error e, t) := by
  intro e t h
  unfold lm_aast at h
  repeat' split at h
  all_goals cases h
theorem lm_getf_ne (q x : Nat) (σ : lm_S) : ∀ e t, lm_getf q x σ ≠ some (.error e, t) := by
  intro e t h
  unfold lm_getf at h
  repeat' split at h
  all_goals cases h
theorem lm_putf_ne (q x : Nat) (v : Value) (σ : lm_S) : ∀ e t, lm_putf q x v σ ≠ some (.error e, t) := by
  intro e t h
  unfold lm_putf at h
  repeat' split at h
  all_goals cases h
theorem lm_push_ne (q : lm_C) (n : Nat) (σ : lm_S) : ∀ e t, lm_push q n σ ≠ some (.error e, t) := by
  intro e t h
  unfold lm_push at h
  repeat' split at h
  all_goals cases h
theorem lm_newm_ne (u : Nat) (n k : Int32) (σ : lm_S) : ∀ e t, lm_newm u n k σ ≠ some (.error e, t) := by
  intro e t h
  unfold lm_newm at h
  repeat' split at h
  all_goals cases h
theorem lm_copy_ne (sc : lm_H) (a : Nat) (sp : Int32) (d : Nat) (dp n : Int32) (σ : lm_S) : ∀ e t, lm_copy sc a sp d dp n σ ≠ some (.error e, t) := by
  intro e t h
  unfold lm_copy at h
  repeat' split at h
  all_goals cases h
theorem lm_newa_ne (q : ArrayType) (n : Int32) (σ : lm_S) : ∀ e t, lm_newa q n σ ≠ some (.error e, t) := by
  intro e t h
  unfold lm_newa at h
  repeat' split at h
  all_goals first | exact lm_push_ne _ _ _ e t h | cases h
theorem lm_newr_ne (q : Nat) (n : Int32) (σ : lm_S) : ∀ e t, lm_newr q n σ ≠ some (.error e, t) := by
  intro e t h
  unfold lm_newr at h
  repeat' split at h
  all_goals first | exact lm_push_ne _ _ _ e t h | cases h
theorem lm_gI_some (q x : Nat) {σ : lm_S} {f : Int32 → lm_M lm_R} {r : Except Nat lm_R × lm_S} (h : lm_bind (lm_gI q x) f σ = some r) : ∃ a t, lm_getf q x σ = some (.ok (.int a), t) ∧ f a t = some r := by
  rcases lm_bind_some h with ⟨e, t, h1, -⟩ | ⟨a, t, h1, h2⟩
  · rcases lm_bind_some h1 with ⟨e', t', h3, -⟩ | ⟨v, t', h3, h4⟩
    · exact absurd h3 (lm_getf_ne _ _ _ e' t')
    · split at h4 <;> cases h4
  · rcases lm_bind_some h1 with ⟨e', t', h3, -⟩ | ⟨v, t', h3, h4⟩
    · exact absurd h3 (lm_getf_ne _ _ _ e' t')
    · split at h4
      · cases h4
        exact ⟨_, _, h3, h2⟩
      · cases h4
theorem lm_gL_some (q x : Nat) {σ : lm_S} {f : Int64 → lm_M lm_R} {r : Except Nat lm_R × lm_S} (h : lm_bind (lm_gL q x) f σ = some r) : ∃ a t, lm_getf q x σ = some (.ok (.long a), t) ∧ f a t = some r := by
  rcases lm_bind_some h with ⟨e, t, h1, -⟩ | ⟨a, t, h1, h2⟩
  · rcases lm_bind_some h1 with ⟨e', t', h3, -⟩ | ⟨v, t', h3, h4⟩
    · exact absurd h3 (lm_getf_ne _ _ _ e' t')
    · split at h4 <;> cases h4
  · rcases lm_bind_some h1 with ⟨e', t', h3, -⟩ | ⟨v, t', h3, h4⟩
    · exact absurd h3 (lm_getf_ne _ _ _ e' t')
    · split at h4
      · cases h4
        exact ⟨_, _, h3, h2⟩
      · cases h4
theorem lm_gR_some (q x : Nat) {σ : lm_S} {f : Nat → lm_M lm_R} {r : Except Nat lm_R × lm_S} (h : lm_bind (lm_gR q x) f σ = some r) : ∃ a t, lm_getf q x σ = some (.ok (.ref a), t) ∧ f a t = some r := by
  rcases lm_bind_some h with ⟨e, t, h1, -⟩ | ⟨a, t, h1, h2⟩
  · rcases lm_bind_some h1 with ⟨e', t', h3, -⟩ | ⟨v, t', h3, h4⟩
    · exact absurd h3 (lm_getf_ne _ _ _ e' t')
    · split at h4 <;> cases h4
  · rcases lm_bind_some h1 with ⟨e', t', h3, -⟩ | ⟨v, t', h3, h4⟩
    · exact absurd h3 (lm_getf_ne _ _ _ e' t')
    · split at h4
      · cases h4
        exact ⟨_, _, h3, h2⟩
      · cases h4
theorem lm_aaR_some (sc : lm_H) (q : Nat) (i : Int32) {σ : lm_S} {f : Nat → lm_M lm_R} {r : Except Nat lm_R × lm_S} (h : lm_bind (lm_aaR sc q i) f σ = some r) : ∃ a t, lm_aald sc q i σ = some (.ok (some a), t) ∧ f a t = some r := by
  rcases lm_bind_some h with ⟨e, t, h1, -⟩ | ⟨a, t, h1, h2⟩
  · rcases lm_bind_some h1 with ⟨e', t', h3, -⟩ | ⟨v, t', h3, h4⟩
    · exact absurd h3 (lm_aald_ne _ _ _ _ e' t')
    · split at h4 <;> cases h4
  · rcases lm_bind_some h1 with ⟨e', t', h3, -⟩ | ⟨v, t', h3, h4⟩
    · exact absurd h3 (lm_aald_ne _ _ _ _ e' t')
    · split at h4
      · cases h4
        exact ⟨_, _, h3, h2⟩
      · cases h4
section LMI
variable {p : Program} {l : Launch} {e : Env} {R : Room} {s : State} {m : MethodId} {args : Array Value} {below : List Frame} {meth : Method} {c : Code} {D : va_G} {cl : List vw_C} {tc : Nat → ClassId} {ad : Nat → Nat} {sc : lm_H} {b nL : Nat} {Q : State → Prop} {cc : ByteArray} {own : String} {ret : Option FieldType} {gs : Nat → Nat → Prop} {dfs : List (List Value)} {ρ : Nat → List Value → lm_M lm_R} {vts : List (Nat × Nat × List (Nat × Nat))} {hs : List (Nat × Nat)}
set_option maxHeartbeats 2000000 in
theorem lm_ins_ok (hx : p.tables.exec = Jvm.exec) (hb : c.code = cc) (hml : c.maxLocals = nL) (hown : s.vm.findClass own = some m.cls) (hG : lm_G D cl tc ad sc b s) (hR : 1 ≤ R.frames ∧ 20 + (nativeFrameWords "java/lang/System" "arraycopy" 5 + 11) ≤ R.locals ∧ 32 ≤ R.locals)
    (hgs : ∀ idx k pc lv st σ, gs idx k → decode cc pc = .ok (.getstatic idx, 3) → lm_Sim p l e R s m args below meth c D cl tc ad b nL Q (pc + 3) (lv) (.ref (lm_B + k) :: st) σ → lm_Sim p l e R s m args below meth c D cl tc ad b nL Q (pc) (lv) (st) σ)
    {ins : Instr} {pc len : Nat} (hok : lm_okI own args s meth cl dfs cc ret nL gs pc len ins) {lv : lm_L} {st : List Value} {σ : lm_S} {next : lm_L → List Value → lm_M lm_R} {jump : Nat → lm_L → List Value → lm_M lm_R} {r : Except Nat lm_R × lm_S}
    (h : lm_ins sc ρ vts dfs hs ins pc lv st next jump σ = some r)
    (kn : ∀ lv' st' σ', next lv' st' σ' = some r → lm_Sim p l e R s m args below meth c D cl tc ad b nL Q (pc + len) (lv') (st') σ')
    (kj : ∀ t lv' st' σ', jump t lv' st' σ' = some r → lm_Sim p l e R s m args below meth c D cl tc ad b nL Q (t) (lv') (st') σ')
    (kr : ∀ v σ', r = (.ok v, σ') → lm_okR cc ret pc v → lm_Sim p l e R s m args below meth c D cl tc ad b nL Q (pc) (lv) (v.toList) σ') : lm_Sim p l e R s m args below meth c D cl tc ad b nL Q (pc) (lv) (st) σ := by
  cases ins
  case iconst v =>
    have h : next lv (.int (Int32.ofInt v) :: st) σ = some r := h
    rcases hok with ⟨hd, rfl⟩ | ⟨n, hd, rfl, hv⟩ | ⟨n, hd, rfl, hv⟩ | ⟨n, hd, rfl, hv⟩ | ⟨n, hd, rfl, hv⟩
    · exact fun ls H locs cells slots hl hQ hc hsl => lv_iconst hx hb hd rfl (kn _ _ _ h ls H locs cells slots hl hQ hc hsl)
    · exact fun ls H locs cells slots hl hQ hc hsl => lv_bipush hx hb hd hv (kn _ _ _ h ls H locs cells slots hl hQ hc hsl)
    · exact fun ls H locs cells slots hl hQ hc hsl => lv_sipush hx hb hd hv (kn _ _ _ h ls H locs cells slots hl hQ hc hsl)
    · exact fun ls H locs cells slots hl hQ hc hsl => lv_ldc hx hb hown hv hd (kn _ _ _ h ls H locs cells slots hl hQ hc hsl)
    · exact fun ls H locs cells slots hl hQ hc hsl => lv_ldcw hx hb hown hv hd (kn _ _ _ h ls H locs cells slots hl hQ hc hsl)
  case ldc2_w v =>
    have h : next lv (.long (Int64.ofNat v) :: st) σ = some r := h
    rcases hok with ⟨n, hd, rfl, hv⟩ | ⟨n, hd, rfl, hv⟩
    · exact fun ls H locs cells slots hl hQ hc hsl => lv_lconst hx hb hd (by rw [hv]) (kn _ _ _ h ls H locs cells slots hl hQ hc hsl)
    · exact fun ls H locs cells slots hl hQ hc hsl => lv_ldc2 hx hb hown hv hd (kn _ _ _ h ls H locs cells slots hl hQ hc hsl)
  case iload i =>
    have h0 := lm_ldI_some h
    clear h
    obtain ⟨x, hlk, h⟩ := h0
    rcases hok with ⟨hd, rfl⟩ | ⟨n, hd, rfl, rfl⟩
    · exact fun ls H locs cells slots hl hQ hc hsl => lv_iload hx hb hd (lm_lk_has hl hlk) (kn _ _ _ h ls H locs cells slots hl hQ hc hsl)
    · exact fun ls H locs cells slots hl hQ hc hsl => lv_iload_n hx hb hd rfl (lm_lk_has hl hlk) (kn _ _ _ h ls H locs cells slots hl hQ hc hsl)
  case lload i =>
    have h0 := lm_ldL_some h
    clear h
    obtain ⟨x, hlk, h⟩ := h0
    rcases hok with ⟨hd, rfl⟩ | ⟨n, hd, rfl, rfl⟩
    · exact fun ls H locs cells slots hl hQ hc hsl => lv_lload hx hb hd (lm_lk_has hl hlk) (kn _ _ _ h ls H locs cells slots hl hQ hc hsl)
    · exact fun ls H locs cells slots hl hQ hc hsl => lv_lload_n hx hb hd rfl (lm_lk_has hl hlk) (kn _ _ _ h ls H locs cells slots hl hQ hc hsl)
  case aload i =>
    have h0 := lm_ldR_some h
    clear h
    obtain ⟨x, hlk, h⟩ := h0
    rcases hok with ⟨hd, rfl⟩ | ⟨n, hd, rfl, rfl⟩
    · exact fun ls H locs cells slots hl hQ hc hsl => lv_aload hx hb hd (lm_lk_has hl hlk) (kn _ _ _ h ls H locs cells slots hl hQ hc hsl)
    · exact fun ls H locs cells slots hl hQ hc hsl => lv_aload_n hx hb hd rfl (lm_lk_has hl hlk) (kn _ _ _ h ls H locs cells slots hl hQ hc hsl)
  case istore i =>
    have h0 := lm_i1_some h
    clear h
    obtain ⟨x, t, rfl, h⟩ := h0
    rcases hok with ⟨hi, ⟨hd, rfl⟩ | ⟨n, hd, rfl, rfl⟩⟩
    · exact fun ls H locs cells slots hl hQ hc hsl => lv_istore hx hb hd hl hi (lm_s1_map ad lv _ (.int x)) (fun ls hl => (kn _ _ _ h ls H locs cells slots hl hQ hc hsl))
    · exact fun ls H locs cells slots hl hQ hc hsl => lv_istore_n hx hb hd rfl hl hi (lm_s1_map ad lv _ (.int x)) (fun ls hl => (kn _ _ _ h ls H locs cells slots hl hQ hc hsl))
  case lstore i =>
    have h0 := lm_l1_some h
    clear h
    obtain ⟨x, t, rfl, h⟩ := h0
    rcases hok with ⟨hi, ⟨hd, rfl⟩ | ⟨n, hd, rfl, rfl⟩⟩
    · exact fun ls H locs cells slots hl hQ hc hsl => lv_lstore hx hb hd hl hi (lm_s2_map ad lv _ (.long x)) (fun ls hl => (kn _ _ _ h ls H locs cells slots hl hQ hc hsl))
    · exact fun ls H locs cells slots hl hQ hc hsl => lv_lstore_n hx hb hd rfl hl hi (lm_s2_map ad lv _ (.long x)) (fun ls hl => (kn _ _ _ h ls H locs cells slots hl hQ hc hsl))
  case astore i =>
    have h0 := lm_r1_some h
    clear h
    obtain ⟨x, t, rfl, h⟩ := h0
    rcases hok with ⟨hi, ⟨hd, rfl⟩ | ⟨n, hd, rfl, rfl⟩⟩
    · exact fun ls H locs cells slots hl hQ hc hsl => lv_astore hx hb hd hl hi (lm_s1_map ad lv _ (.ref x)) (fun ls hl => (kn _ _ _ h ls H locs cells slots hl hQ hc hsl))
    · exact fun ls H locs cells slots hl hQ hc hsl => lv_astore_n hx hb hd rfl hl hi (lm_s1_map ad lv _ (.ref x)) (fun ls hl => (kn _ _ _ h ls H locs cells slots hl hQ hc hsl))
  case iinc i n =>
    have h0 := lm_ldI_some h
    clear h
    obtain ⟨x, hlk, h⟩ := h0
    obtain ⟨k9, hk9⟩ := List.getElem?_of_mem (lm_lk_mem hlk)
    have hk : ∀ ad : Nat → Nat, (lv.map fun q => (q.1, lm_v ad q.2))[k9]? = some (i, .int x) := fun ad => by rw [List.getElem?_map, hk9]; rfl
    rcases hok with ⟨hi, ⟨hd, rfl⟩ | ⟨hd, rfl⟩⟩
    · exact fun ls H locs cells slots hl hQ hc hsl => lv_iinc hx hb hd hl (hk ad) rfl hi (lm_s1_map ad lv _ (.int _)) (fun ls hl => (kn _ _ _ h ls H locs cells slots hl hQ hc hsl))
    · exact fun ls H locs cells slots hl hQ hc hsl => lv_iincW hx hb hd hl (hk ad) rfl hi (lm_s1_map ad lv _ (.int _)) (fun ls hl => (kn _ _ _ h ls H locs cells slots hl hQ hc hsl))
  case iadd  =>
    have h0 := lm_i2_some h
    clear h
    obtain ⟨x, y, t, rfl, h⟩ := h0
    obtain ⟨hd, rfl⟩ := hok
    exact fun ls H locs cells slots hl hQ hc hsl => lv_iadd hx hb hd (kn _ _ _ h ls H locs cells slots hl hQ hc hsl)
  case isub  =>
    have h0 := lm_i2_some h
    clear h
    obtain ⟨x, y, t, rfl, h⟩ := h0
    obtain ⟨hd, rfl⟩ := hok
    exact fun ls H locs cells slots hl hQ hc hsl => lv_isub hx hb hd (kn _ _ _ h ls H locs cells slots hl hQ hc hsl)
  case imul  =>
    have h0 := lm_i2_some h
    clear h
    obtain ⟨x, y, t, rfl, h⟩ := h0
    obtain ⟨hd, rfl⟩ := hok
    exact fun ls H locs cells slots hl hQ hc hsl => lv_imul hx hb hd (kn _ _ _ h ls H locs cells slots hl hQ hc hsl)
  case iand  =>
    have h0 := lm_i2_some h
    clear h
    obtain ⟨x, y, t, rfl, h⟩ := h0
    obtain ⟨hd, rfl⟩ := hok
    exact fun ls H locs cells slots hl hQ hc hsl => lv_iand hx hb hd (kn _ _ _ h ls H locs cells slots hl hQ hc hsl)
  case ior  =>
    have h0 := lm_i2_some h
    clear h
    obtain ⟨x, y, t, rfl, h⟩ := h0
    obtain ⟨hd, rfl⟩ := hok
    exact fun ls H locs cells slots hl hQ hc hsl => lv_ior hx hb hd (kn _ _ _ h ls H locs cells slots hl hQ hc hsl)
  case ixor  =>
    have h0 := lm_i2_some h
    clear h
    obtain ⟨x, y, t, rfl, h⟩ := h0
    obtain ⟨hd, rfl⟩ := hok
    exact fun ls H locs cells slots hl hQ hc hsl => lv_ixor hx hb hd (kn _ _ _ h ls H locs cells slots hl hQ hc hsl)
  case ishl  =>
    have h0 := lm_i2_some h
    clear h
    obtain ⟨x, y, t, rfl, h⟩ := h0
    obtain ⟨hd, rfl⟩ := hok
    exact fun ls H locs cells slots hl hQ hc hsl => lv_ishl hx hb hd (kn _ _ _ h ls H locs cells slots hl hQ hc hsl)
  case ishr  =>
    have h0 := lm_i2_some h
    clear h
    obtain ⟨x, y, t, rfl, h⟩ := h0
    obtain ⟨hd, rfl⟩ := hok
    exact fun ls H locs cells slots hl hQ hc hsl => lv_ishr hx hb hd (kn _ _ _ h ls H locs cells slots hl hQ hc hsl)
  case iushr  =>
    have h0 := lm_i2_some h
    clear h
    obtain ⟨x, y, t, rfl, h⟩ := h0
    obtain ⟨hd, rfl⟩ := hok
    exact fun ls H locs cells slots hl hQ hc hsl => lv_iushr hx hb hd rfl (kn _ _ _ h ls H locs cells slots hl hQ hc hsl)
  case idiv  =>
    have h0 := lm_i2_some h
    clear h
    obtain ⟨x, y, t, rfl, h⟩ := h0
    have h0 := lm_when_some h
    clear h
    obtain ⟨hy, h⟩ := h0
    obtain ⟨hd, rfl⟩ := hok
    exact fun ls H locs cells slots hl hQ hc hsl => lv_idiv hx hb hd hy (kn _ _ _ h ls H locs cells slots hl hQ hc hsl)
  case irem  =>
    have h0 := lm_i2_some h
    clear h
    obtain ⟨x, y, t, rfl, h⟩ := h0
    have h0 := lm_when_some h
    clear h
    obtain ⟨hy, h⟩ := h0
    obtain ⟨hd, rfl⟩ := hok
    exact fun ls H locs cells slots hl hQ hc hsl => lv_irem hx hb hd hy (kn _ _ _ h ls H locs cells slots hl hQ hc hsl)
  case ldiv  =>
    have h0 := lm_l2_some h
    clear h
    obtain ⟨x, y, t, rfl, h⟩ := h0
    have h0 := lm_when_some h
    clear h
    obtain ⟨hy, h⟩ := h0
    obtain ⟨hd, rfl⟩ := hok
    exact fun ls H locs cells slots hl hQ hc hsl => lv_ldiv hx hb hd hy (kn _ _ _ h ls H locs cells slots hl hQ hc hsl)
  case lrem  =>
    have h0 := lm_l2_some h
    clear h
    obtain ⟨x, y, t, rfl, h⟩ := h0
    have h0 := lm_when_some h
    clear h
    obtain ⟨hy, h⟩ := h0
    obtain ⟨hd, rfl⟩ := hok
    exact fun ls H locs cells slots hl hQ hc hsl => lv_lrem hx hb hd hy (kn _ _ _ h ls H locs cells slots hl hQ hc hsl)
  case ineg  =>
    have h0 := lm_i1_some h
    clear h
    obtain ⟨x, t, rfl, h⟩ := h0
    obtain ⟨hd, rfl⟩ := hok
    exact fun ls H locs cells slots hl hQ hc hsl => lv_ineg hx hb hd (kn _ _ _ h ls H locs cells slots hl hQ hc hsl)
  case i2b  =>
    have h0 := lm_i1_some h
    clear h
    obtain ⟨x, t, rfl, h⟩ := h0
    obtain ⟨hd, rfl⟩ := hok
    exact fun ls H locs cells slots hl hQ hc hsl => lv_i2b hx hb hd rfl (kn _ _ _ h ls H locs cells slots hl hQ hc hsl)
  case i2l  =>
    have h0 := lm_i1_some h
    clear h
    obtain ⟨x, t, rfl, h⟩ := h0
    obtain ⟨hd, rfl⟩ := hok
    exact fun ls H locs cells slots hl hQ hc hsl => lv_i2l hx hb hd rfl (kn _ _ _ h ls H locs cells slots hl hQ hc hsl)
  case l2i  =>
    have h0 := lm_l1_some h
    clear h
    obtain ⟨x, t, rfl, h⟩ := h0
    obtain ⟨hd, rfl⟩ := hok
    exact fun ls H locs cells slots hl hQ hc hsl => lv_l2i hx hb hd rfl (kn _ _ _ h ls H locs cells slots hl hQ hc hsl)
  case ladd  =>
    have h0 := lm_l2_some h
    clear h
    obtain ⟨x, y, t, rfl, h⟩ := h0
    obtain ⟨hd, rfl⟩ := hok
    exact fun ls H locs cells slots hl hQ hc hsl => lv_ladd hx hb hd (kn _ _ _ h ls H locs cells slots hl hQ hc hsl)
  case lsub  =>
    have h0 := lm_l2_some h
    clear h
    obtain ⟨x, y, t, rfl, h⟩ := h0
    obtain ⟨hd, rfl⟩ := hok
    exact fun ls H locs cells slots hl hQ hc hsl => lv_lsub hx hb hd (kn _ _ _ h ls H locs cells slots hl hQ hc hsl)
  case lmul  =>
    have h0 := lm_l2_some h
    clear h
    obtain ⟨x, y, t, rfl, h⟩ := h0
    obtain ⟨hd, rfl⟩ := hok
    exact fun ls H locs cells slots hl hQ hc hsl => lv_lmul hx hb hd (kn _ _ _ h ls H locs cells slots hl hQ hc hsl)
  case land  =>
    have h0 := lm_l2_some h
    clear h
    obtain ⟨x, y, t, rfl, h⟩ := h0
    obtain ⟨hd, rfl⟩ := hok
    exact fun ls H locs cells slots hl hQ hc hsl => lv_land hx hb hd (kn _ _ _ h ls H locs cells slots hl hQ hc hsl)
  case lor  =>
    have h0 := lm_l2_some h
    clear h
    obtain ⟨x, y, t, rfl, h⟩ := h0
    obtain ⟨hd, rfl⟩ := hok
    exact fun ls H locs cells slots hl hQ hc hsl => lv_lor hx hb hd (kn _ _ _ h ls H locs cells slots hl hQ hc hsl)
  case lxor  =>
    have h0 := lm_l2_some h
    clear h
    obtain ⟨x, y, t, rfl, h⟩ := h0
    obtain ⟨hd, rfl⟩ := hok
    exact fun ls H locs cells slots hl hQ hc hsl => lv_lxor hx hb hd (kn _ _ _ h ls H locs cells slots hl hQ hc hsl)
  case lshl  =>
    have h0 := lm_li_some h
    clear h
    obtain ⟨x, y, t, rfl, h⟩ := h0
    obtain ⟨hd, rfl⟩ := hok
    exact fun ls H locs cells slots hl hQ hc hsl => lv_lshl hx hb hd rfl (kn _ _ _ h ls H locs cells slots hl hQ hc hsl)
  case lshr  =>
    have h0 := lm_li_some h
    clear h
    obtain ⟨x, y, t, rfl, h⟩ := h0
    obtain ⟨hd, rfl⟩ := hok
    exact fun ls H locs cells slots hl hQ hc hsl => lv_lshr hx hb hd rfl (kn _ _ _ h ls H locs cells slots hl hQ hc hsl)
  case lushr  =>
    have h0 := lm_li_some h
    clear h
    obtain ⟨x, y, t, rfl, h⟩ := h0
    obtain ⟨hd, rfl⟩ := hok
    exact fun ls H locs cells slots hl hQ hc hsl => lv_lushr hx hb hd rfl (kn _ _ _ h ls H locs cells slots hl hQ hc hsl)
  case lcmp  =>
    have h0 := lm_l2_some h
    clear h
    obtain ⟨x, y, t, rfl, h⟩ := h0
    obtain ⟨hd, rfl⟩ := hok
    exact fun ls H locs cells slots hl hQ hc hsl => W.lcmp hx hb hd (kn _ _ _ h ls H locs cells slots hl hQ hc hsl)
  case dup  =>
    have h0 := lm_v1_some h
    clear h
    obtain ⟨v, t, rfl, h⟩ := h0
    have h0 := lm_cond_some h
    clear h
    obtain ⟨hv, h⟩ := h0
    obtain ⟨hd, rfl⟩ := hok
    exact fun ls H locs cells slots hl hQ hc hsl => lv_dup hx hb hd ((lm_v_cat ad v).trans (Nat.eq_of_beq_eq_true hv)) (kn _ _ _ h ls H locs cells slots hl hQ hc hsl)
  case pop  =>
    have h0 := lm_v1_some h
    clear h
    obtain ⟨v, t, rfl, h⟩ := h0
    have h0 := lm_cond_some h
    clear h
    obtain ⟨hv, h⟩ := h0
    obtain ⟨hd, rfl⟩ := hok
    exact fun ls H locs cells slots hl hQ hc hsl => lv_pop hx hb hd ((lm_v_cat ad v).trans (Nat.eq_of_beq_eq_true hv)) (kn _ _ _ h ls H locs cells slots hl hQ hc hsl)
  case dup_x1  =>
    have h0 := lm_v1_some h
    clear h
    obtain ⟨v, t, rfl, h⟩ := h0
    have h0 := lm_v1_some h
    clear h
    obtain ⟨w, t, rfl, h⟩ := h0
    have h0 := lm_cond_some h
    clear h
    obtain ⟨hv, h⟩ := h0
    have h0 := lm_cond_some h
    clear h
    obtain ⟨hw, h⟩ := h0
    obtain ⟨hd, rfl⟩ := hok
    exact fun ls H locs cells slots hl hQ hc hsl => lv_dup_x1 hx hb hd ((lm_v_cat ad v).trans (Nat.eq_of_beq_eq_true hv)) ((lm_v_cat ad w).trans (Nat.eq_of_beq_eq_true hw)) (kn _ _ _ h ls H locs cells slots hl hQ hc hsl)
  case dup2  =>
    have h0 := lm_v1_some h
    clear h
    obtain ⟨v, t, rfl, h⟩ := h0
    obtain ⟨hd, rfl⟩ := hok
    cases hv : Nat.beq v.category 1 with
    | true =>
      rw [hv] at h
      have h0 := lm_v1_some h
      clear h
      obtain ⟨w, t, rfl, h⟩ := h0
      have h0 := lm_cond_some h
      clear h
      obtain ⟨hw, h⟩ := h0
      exact fun ls H locs cells slots hl hQ hc hsl => lv_dup2_11 hx hb hd ((lm_v_cat ad v).trans (Nat.eq_of_beq_eq_true hv)) ((lm_v_cat ad w).trans (Nat.eq_of_beq_eq_true hw)) (kn _ _ _ h ls H locs cells slots hl hQ hc hsl)
    | false =>
      rw [hv] at h
      have h2 : v.category = 2 := by
        rcases lv_cat v with h1 | h1
        · rw [h1] at hv; cases hv
        · exact h1
      exact fun ls H locs cells slots hl hQ hc hsl => lv_dup2_2 hx hb hd ((lm_v_cat ad v).trans h2) (kn _ _ _ h ls H locs cells slots hl hQ hc hsl)
  case if_icmp co off =>
    have h0 := lm_i2_some h
    clear h
    obtain ⟨x, y, t, rfl, h⟩ := h0
    obtain ⟨hd, rfl, ht⟩ := hok
    intro ls H locs cells slots hl hQ hc hsl
    cases co
    · refine lv_icmp_eq (tgt := lm_tgt pc off) hx hb hd (lm_tgt_ok ht) (fun q => ?_) (fun q => ?_)
      · have h := (congrFun (lm_if_pos (c := .eq) (x := x) (y := y) q) σ).symm.trans h
        exact (kj _ _ _ _ h ls H locs cells slots hl hQ hc hsl)
      · have h := (congrFun (lm_if_neg (c := .eq) (x := x) (y := y) q) σ).symm.trans h
        exact (kn _ _ _ h ls H locs cells slots hl hQ hc hsl)
    · refine lv_icmp_ne (tgt := lm_tgt pc off) hx hb hd (lm_tgt_ok ht) (fun q => ?_) (fun q => ?_)
      · have h := (congrFun (lm_if_pos (c := .ne) (x := x) (y := y) q) σ).symm.trans h
        exact (kj _ _ _ _ h ls H locs cells slots hl hQ hc hsl)
      · have h := (congrFun (lm_if_neg (c := .ne) (x := x) (y := y) (fun z => z q)) σ).symm.trans h
        exact (kn _ _ _ h ls H locs cells slots hl hQ hc hsl)
    · refine lv_icmp_lt (tgt := lm_tgt pc off) hx hb hd (lm_tgt_ok ht) (fun q => ?_) (fun q => ?_)
      · have h := (congrFun (lm_if_pos (c := .lt) (x := x) (y := y) q) σ).symm.trans h
        exact (kj _ _ _ _ h ls H locs cells slots hl hQ hc hsl)
      · have h := (congrFun (lm_if_neg (c := .lt) (x := x) (y := y) q) σ).symm.trans h
        exact (kn _ _ _ h ls H locs cells slots hl hQ hc hsl)
    · refine lv_icmp_ge (tgt := lm_tgt pc off) hx hb hd (lm_tgt_ok ht) (fun q => ?_) (fun q => ?_)
      · have h := (congrFun (lm_if_pos (c := .ge) (x := x) (y := y) q) σ).symm.trans h
        exact (kj _ _ _ _ h ls H locs cells slots hl hQ hc hsl)
      · have h := (congrFun (lm_if_neg (c := .ge) (x := x) (y := y) q) σ).symm.trans h
        exact (kn _ _ _ h ls H locs cells slots hl hQ hc hsl)
    · refine lv_icmp_gt (tgt := lm_tgt pc off) hx hb hd (lm_tgt_ok ht) (fun q => ?_) (fun q => ?_)
      · have h := (congrFun (lm_if_pos (c := .gt) (x := x) (y := y) q) σ).symm.trans h
        exact (kj _ _ _ _ h ls H locs cells slots hl hQ hc hsl)
      · have h := (congrFun (lm_if_neg (c := .gt) (x := x) (y := y) q) σ).symm.trans h
        exact (kn _ _ _ h ls H locs cells slots hl hQ hc hsl)
    · refine lv_icmp_le (tgt := lm_tgt pc off) hx hb hd (lm_tgt_ok ht) (fun q => ?_) (fun q => ?_)
      · have h := (congrFun (lm_if_pos (c := .le) (x := x) (y := y) q) σ).symm.trans h
        exact (kj _ _ _ _ h ls H locs cells slots hl hQ hc hsl)
      · have h := (congrFun (lm_if_neg (c := .le) (x := x) (y := y) q) σ).symm.trans h
        exact (kn _ _ _ h ls H locs cells slots hl hQ hc hsl)
  case ifCond co off =>
    have h0 := lm_i1_some h
    clear h
    obtain ⟨x, t, rfl, h⟩ := h0
    obtain ⟨hd, rfl, ht⟩ := hok
    intro ls H locs cells slots hl hQ hc hsl
    cases co
    · refine lv_if_eq (tgt := lm_tgt pc off) hx hb hd (lm_tgt_ok ht) (fun q => ?_) (fun q => ?_)
      · have h := (congrFun (lm_if_pos (c := .eq) (x := x) (y := 0) q) σ).symm.trans h
        exact (kj _ _ _ _ h ls H locs cells slots hl hQ hc hsl)
      · have h := (congrFun (lm_if_neg (c := .eq) (x := x) (y := 0) q) σ).symm.trans h
        exact (kn _ _ _ h ls H locs cells slots hl hQ hc hsl)
    · refine lv_if_ne (tgt := lm_tgt pc off) hx hb hd (lm_tgt_ok ht) (fun q => ?_) (fun q => ?_)
      · have h := (congrFun (lm_if_pos (c := .ne) (x := x) (y := 0) q) σ).symm.trans h
        exact (kj _ _ _ _ h ls H locs cells slots hl hQ hc hsl)
      · have h := (congrFun (lm_if_neg (c := .ne) (x := x) (y := 0) (fun z => z q)) σ).symm.trans h
        exact (kn _ _ _ h ls H locs cells slots hl hQ hc hsl)
    · refine lv_if_lt (tgt := lm_tgt pc off) hx hb hd (lm_tgt_ok ht) (fun q => ?_) (fun q => ?_)
      · have h := (congrFun (lm_if_pos (c := .lt) (x := x) (y := 0) q) σ).symm.trans h
        exact (kj _ _ _ _ h ls H locs cells slots hl hQ hc hsl)
      · have h := (congrFun (lm_if_neg (c := .lt) (x := x) (y := 0) q) σ).symm.trans h
        exact (kn _ _ _ h ls H locs cells slots hl hQ hc hsl)
    · refine lv_if_ge (tgt := lm_tgt pc off) hx hb hd (lm_tgt_ok ht) (fun q => ?_) (fun q => ?_)
      · have h := (congrFun (lm_if_pos (c := .ge) (x := x) (y := 0) q) σ).symm.trans h
        exact (kj _ _ _ _ h ls H locs cells slots hl hQ hc hsl)
      · have h := (congrFun (lm_if_neg (c := .ge) (x := x) (y := 0) q) σ).symm.trans h
        exact (kn _ _ _ h ls H locs cells slots hl hQ hc hsl)
    · refine lv_if_gt (tgt := lm_tgt pc off) hx hb hd (lm_tgt_ok ht) (fun q => ?_) (fun q => ?_)
      · have h := (congrFun (lm_if_pos (c := .gt) (x := x) (y := 0) q) σ).symm.trans h
        exact (kj _ _ _ _ h ls H locs cells slots hl hQ hc hsl)
      · have h := (congrFun (lm_if_neg (c := .gt) (x := x) (y := 0) q) σ).symm.trans h
        exact (kn _ _ _ h ls H locs cells slots hl hQ hc hsl)
    · refine lv_if_le (tgt := lm_tgt pc off) hx hb hd (lm_tgt_ok ht) (fun q => ?_) (fun q => ?_)
      · have h := (congrFun (lm_if_pos (c := .le) (x := x) (y := 0) q) σ).symm.trans h
        exact (kj _ _ _ _ h ls H locs cells slots hl hQ hc hsl)
      · have h := (congrFun (lm_if_neg (c := .le) (x := x) (y := 0) q) σ).symm.trans h
        exact (kn _ _ _ h ls H locs cells slots hl hQ hc hsl)
  case if_acmp co off =>
    cases co
    · have h0 := lm_r1_some h
      clear h
      obtain ⟨y, t, rfl, h⟩ := h0
      have h0 := lm_r1_some h
      clear h
      obtain ⟨x, t, rfl, h⟩ := h0
      have h0 := lm_when_some h
      clear h
      obtain ⟨hxy, h⟩ := h0
      obtain ⟨hd, rfl, ht⟩ := hok
      intro ls H locs cells slots hl hQ hc hsl
      refine lv_acmp_eq (rx := some (ad x)) (ry := some (ad y)) (tgt := lm_tgt pc off) hx hb hd (lm_tgt_ok ht) (fun q => ?_) (fun q => ?_)
      · have e1 : x = y := by
          have e3 : b + x = b + y := by rw [← hG.1 x hxy.1, ← hG.1 y hxy.2]; exact Option.some.inj q
          exact Nat.add_left_cancel e3
        rw [if_pos e1] at h
        exact (kj _ _ _ _ h ls H locs cells slots hl hQ hc hsl)
      · have e1 : ¬ x = y := fun e => q (by rw [e])
        rw [if_neg e1] at h
        exact (kn _ _ _ h ls H locs cells slots hl hQ hc hsl)
    · cases h
  case goto off =>
    have h : jump (lm_tgt pc off) lv st σ = some r := h
    obtain ⟨hd, -, ht⟩ := hok
    exact fun ls H locs cells slots hl hQ hc hsl => lv_goto (tgt := lm_tgt pc off) hx hb hd (lm_tgt_ok ht) (kj _ _ _ _ h ls H locs cells slots hl hQ hc hsl)
  case tableswitch d lo hi offs =>
    have h0 := lm_i1_some h
    clear h
    obtain ⟨x, t, rfl, h⟩ := h0
    obtain ⟨⟨n, hd⟩, ht, hts⟩ := hok
    by_cases ho : x.toInt < lo ∨ hi < x.toInt
    · rw [if_pos ho] at h
      exact fun ls H locs cells slots hl hQ hc hsl => lv_tableOut (tgt := lm_tgt pc d) hx hb hd ho (lm_tgt_ok ht) (kj _ _ _ _ h ls H locs cells slots hl hQ hc hsl)
    · rw [if_neg ho] at h
      have h0 := lm_opt_some h
      clear h
      obtain ⟨off, hoff, h⟩ := h0
      have hm : off ∈ offs.toList := Array.mem_toList_iff.mpr (Array.mem_of_getElem? hoff)
      exact fun ls H locs cells slots hl hQ hc hsl => lv_tableIn (tgt := lm_tgt pc off) hx hb hd (fun z => ho (Or.inl z)) (fun z => ho (Or.inr z)) hoff (lm_tgt_ok (hts off hm)) (kj _ _ _ _ h ls H locs cells slots hl hQ hc hsl)
  case getfield f =>
    have h0 := lm_r1_some h
    clear h
    obtain ⟨q, t, rfl, h⟩ := h0
    obtain ⟨idx, ref, hd, rfl, hf⟩ := hok
    rcases lm_k4_cases h with h | h | h | h
    · obtain ⟨a, t', h1, h2⟩ := lm_gI_some _ _ h
      exact ls_getf hx hb hown hG hf h1 hd (kn _ _ _ h2)
    · obtain ⟨a, t', h1, h2⟩ := lm_gL_some _ _ h
      exact ls_getf hx hb hown hG hf h1 hd (kn _ _ _ h2)
    · obtain ⟨a, t', h1, h2⟩ := lm_gR_some _ _ h
      exact ls_getf hx hb hown hG hf h1 hd (kn _ _ _ h2)
    · obtain ⟨a, t', h1, h2⟩ := lm_gI_some _ _ h
      exact ls_getf hx hb hown hG hf h1 hd (kn _ _ _ h2)
  case putfield f =>
    have h0 := lm_v1_some h
    clear h
    obtain ⟨v, t, rfl, h⟩ := h0
    have h0 := lm_r1_some h
    clear h
    obtain ⟨q, t, rfl, h⟩ := h0
    obtain ⟨a, t', h1, h2⟩ := lm_bind_ok h (lm_putf_ne _ _ _ _)
    obtain ⟨idx, ref, hd, rfl, hf, hp⟩ := hok
    exact ls_putf hx hb hown hG hf hp h1 hd (kn _ _ _ h2)
  case getstatic k =>
    have h : next lv (.ref (lm_B + k) :: st) σ = some r := h
    obtain ⟨idx, hd, rfl, hg⟩ := hok
    exact hgs idx k pc lv st σ hg hd (kn _ _ _ h)
  case iaload  =>
    have h0 := lm_ri_some h
    clear h
    obtain ⟨q, i, t, rfl, h⟩ := h0
    obtain ⟨a, t', h1, h2⟩ := lm_bind_ok h (lm_iald_ne _ _ _ _)
    obtain ⟨hd, rfl⟩ := hok
    exact ls_iald hx hb hG h1 hd (kn _ _ _ h2)
  case baload  =>
    have h0 := lm_ri_some h
    clear h
    obtain ⟨q, i, t, rfl, h⟩ := h0
    obtain ⟨a, t', h1, h2⟩ := lm_bind_ok h (lm_bald_ne _ _ _ _)
    obtain ⟨hd, rfl⟩ := hok
    exact ls_bald hx hb hG h1 hd (kn _ _ _ h2)
  case laload  =>
    have h0 := lm_ri_some h
    clear h
    obtain ⟨q, i, t, rfl, h⟩ := h0
    obtain ⟨a, t', h1, h2⟩ := lm_bind_ok h (lm_lald_ne _ _ _ _)
    obtain ⟨hd, rfl⟩ := hok
    exact ls_lald hx hb hG h1 hd (kn _ _ _ h2)
  case aaload  =>
    have h0 := lm_ri_some h
    clear h
    obtain ⟨q, i, t, rfl, h⟩ := h0
    obtain ⟨a, t', h1, h2⟩ := lm_aaR_some _ _ _ h
    obtain ⟨hd, rfl⟩ := hok
    exact ls_aald hx hb hG h1 hd (kn _ _ _ h2)
  case arraylength  =>
    have h0 := lm_r1_some h
    clear h
    obtain ⟨q, t, rfl, h⟩ := h0
    obtain ⟨a, t', h1, h2⟩ := lm_bind_ok h (lm_alen_ne _ _ _)
    obtain ⟨hd, rfl⟩ := hok
    exact ls_alen hx hb hG h1 hd (kn _ _ _ h2)
  case iastore  =>
    have h0 := lm_i1_some h
    clear h
    obtain ⟨x, t, rfl, h⟩ := h0
    have h0 := lm_ri_some h
    clear h
    obtain ⟨q, i, t, rfl, h⟩ := h0
    obtain ⟨a, t', h1, h2⟩ := lm_bind_ok h (lm_iast_ne _ _ _ _)
    obtain ⟨hd, rfl⟩ := hok
    exact ls_iast hx hb hG h1 hd (kn _ _ _ h2)
  case bastore  =>
    have h0 := lm_i1_some h
    clear h
    obtain ⟨x, t, rfl, h⟩ := h0
    have h0 := lm_ri_some h
    clear h
    obtain ⟨q, i, t, rfl, h⟩ := h0
    obtain ⟨a, t', h1, h2⟩ := lm_bind_ok h (lm_bast_ne _ _ _ _)
    obtain ⟨hd, rfl⟩ := hok
    exact ls_bast hx hb hG h1 hd (kn _ _ _ h2)
  case lastore  =>
    have h0 := lm_l1_some h
    clear h
    obtain ⟨x, t, rfl, h⟩ := h0
    have h0 := lm_ri_some h
    clear h
    obtain ⟨q, i, t, rfl, h⟩ := h0
    obtain ⟨a, t', h1, h2⟩ := lm_bind_ok h (lm_last_ne _ _ _ _)
    obtain ⟨hd, rfl⟩ := hok
    exact ls_last hx hb hG h1 hd (kn _ _ _ h2)
  case aastore  =>
    have h0 := lm_r1_some h
    clear h
    obtain ⟨x, t, rfl, h⟩ := h0
    have h0 := lm_ri_some h
    clear h
    obtain ⟨q, i, t, rfl, h⟩ := h0
    obtain ⟨a, t', h1, h2⟩ := lm_bind_ok h (lm_aast_ne _ _ _ _)
    obtain ⟨hd, rfl, hcl⟩ := hok
    exact ls_aast hx hb hG hcl h1 hd (kn _ _ _ h2)
  case newarray aty =>
    have h0 := lm_i1_some h
    clear h
    obtain ⟨n, t, rfl, h⟩ := h0
    obtain ⟨a, t', h1, h2⟩ := lm_bind_ok h (lm_newa_ne _ _ _)
    obtain ⟨hd, rfl, ha⟩ := hok
    exact ls_newa hx hb hG ha h1 hd (kn _ _ _ h2)
  case anewarray aty =>
    have h0 := lm_i1_some h
    clear h
    obtain ⟨n, t, rfl, h⟩ := h0
    obtain ⟨a, t', h1, h2⟩ := lm_bind_ok h (lm_newr_ne _ _ _)
    obtain ⟨idx, hd, rfl, ha, ho⟩ := hok
    exact ls_newr hx hb hown hG ha ho h1 hd (kn _ _ _ h2)
  case new ci =>
    have h0 := lm_opt_some h
    clear h
    obtain ⟨fs, hfs, h⟩ := h0
    obtain ⟨a, t', h1, h2⟩ := lm_bind_ok h (lm_push_ne _ _ _)
    obtain ⟨idx, hd, rfl, hn⟩ := hok
    exact ls_new hx hb hown hG (hn fs hfs) h1 hd (kn _ _ _ h2)
  case multianewarray mt md =>
    have h0 := lm_i2_some h
    clear h
    obtain ⟨n, k, t, rfl, h⟩ := h0
    obtain ⟨a, t', h1, h2⟩ := lm_bind_ok h (lm_newm_ne _ _ _ _)
    obtain ⟨idx, ty, hd, rfl, hcl, hov, har, hty⟩ := hok
    rcases hty with ⟨rfl, rfl⟩ | ⟨rfl, rfl⟩ | ⟨rfl, rfl⟩
    · exact lm_mna hx hb hown hG hcl hov har (hG.2.2.2.1.2 3 _ rfl).2 (hG.2.2.2.1.2 0 _ rfl).2 rfl rfl (by decide) (fun _ => trivial) h1 hd (kn _ _ _ h2)
    · exact lm_mna hx hb hown hG hcl hov har (hG.2.2.2.1.2 4 _ rfl).2 (hG.2.2.2.1.2 1 _ rfl).2 rfl rfl (by decide) (fun _ => trivial) h1 hd (kn _ _ _ h2)
    · exact lm_mna hx hb hown hG hcl hov har (hG.2.2.2.1.2 5 _ rfl).2 (hG.2.2.2.1.2 2 _ rfl).2 rfl rfl (by decide) (fun _ => trivial) h1 hd (kn _ _ _ h2)
  case monitorexit  =>
    have h0 := lm_r1_some h
    clear h
    obtain ⟨q, t, rfl, h⟩ := h0
    have h0 := lm_cond_some h
    clear h
    obtain ⟨hw, h⟩ := h0
    obtain ⟨idx, hd, rfl, hl1, hl2, hl3⟩ := hok
    have hw2 : lm_wt t ≤ 20 := Nat.le_of_ble_eq_true hw
    exact fun ls H locs cells slots hl hQ hc hsl => W.objInit hx hb hown hl1 hl2 hl3 rfl (hl.1.trans hml.symm) rfl hd hR.1 (by show 2 * 0 + ((t.map (lm_v ad)).map fun v => v.category).sum + 12 ≤ _; rw [lm_cat_map]; have h9 : (t.map fun v => v.category).sum ≤ 20 := hw2; omega) (kn _ _ _ h ls H locs cells slots hl hQ hc hsl)
  case monitorenter  =>
    have h0 := lm_i2_some h
    clear h
    obtain ⟨dp, n, t, rfl, h⟩ := h0
    have h0 := lm_r1_some h
    clear h
    obtain ⟨d, t, rfl, h⟩ := h0
    have h0 := lm_ri_some h
    clear h
    obtain ⟨a, sp, t, rfl, h⟩ := h0
    have h0 := lm_cond_some h
    clear h
    obtain ⟨hw, h⟩ := h0
    obtain ⟨a9, t', h1, h2⟩ := lm_bind_ok h (lm_copy_ne _ _ _ _ _ _ _)
    obtain ⟨idx, hd, rfl, hlk, hna, hst, hin⟩ := hok
    have hw2 : lm_wt t ≤ 20 := Nat.le_of_ble_eq_true hw
    exact ls_copy hx hb hml hown hG hlk hna hst hin ⟨hR.1, Nat.le_trans (Nat.add_le_add_right hw2 _) hR.2.1⟩ h1 hd (kn _ _ _ h2)
  case ireturn  =>
    have h0 := lm_oneI_some h
    clear h
    obtain ⟨x, rfl, h⟩ := h0
    exact kr _ _ (Option.some.inj h).symm (Or.inl ⟨x, rfl, hok.1, Or.inl hok.2⟩)
  case ret z =>
    have h0 := lm_oneI_some h
    clear h
    obtain ⟨x, rfl, h⟩ := h0
    have h0 := lm_when_some h
    clear h
    obtain ⟨hz, h⟩ := h0
    exact kr _ _ (Option.some.inj h).symm (Or.inl ⟨x, rfl, hok.1, Or.inr ⟨hok.2, hz⟩⟩)
  case lreturn  =>
    have h0 := lm_oneL_some h
    clear h
    obtain ⟨x, rfl, h⟩ := h0
    exact kr _ _ (Option.some.inj h).symm (Or.inr (Or.inl ⟨x, rfl, hok.1, hok.2⟩))
  case areturn  =>
    have h0 := lm_oneR_some h
    clear h
    obtain ⟨x, rfl, h⟩ := h0
    exact kr _ _ (Option.some.inj h).symm (Or.inr (Or.inr (Or.inl ⟨x, rfl, hok.1, hok.2⟩)))
  case return_  =>
    have h0 := lm_none_some h
    clear h
    obtain ⟨rfl, h⟩ := h0
    exact kr _ _ (Option.some.inj h).symm (Or.inr (Or.inr (Or.inr ⟨rfl, hok.1, hok.2⟩)))
  all_goals first | exact hok.elim | exact nomatch (show (none : Option (Except Nat lm_R × lm_S)) = some r from h)
end LMI
