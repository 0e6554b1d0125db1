/-! ===== THE CHECK OF AN INSTRUCTION, and what it gives ===== -/
/-- the law's handlers: catch entry, class number, place of its classLink -/
def lm_hct : List (Nat × Nat × Nat) := [(13, 12, 461), (19, 13, 543), (49, 14, 1099), (51, 15, 1100), (56, 16, 1206)]
def lm_hW (cl : List vw_C) : List (Nat × Cond) := lm_hct.flatMap fun q => match cl[q.2.1]? with
  | some C => [(q.2.2, .classLink "LatticeSuiteLaw" q.1 C.1)]
  | none => []
def lm_hP (cl : List vw_C) : Prop := ∀ q ∈ lm_hct, ∃ n T, cl[q.2.1]? = some (n, T, 0) ∧ n ∈ lm_exs ∧ Cond.classLink "LatticeSuiteLaw" q.1 n ∈ lm_W0
def lm_hsB (own : String) (pc : Nat) (hh : List (Nat × Nat × Nat × Nat)) (hs : List (Nat × Nat)) : Bool := (hh.isEmpty && hs.isEmpty) || (decide (own = "LatticeSuiteLaw") && Nat.beq hh.length hs.length && (hh.zip hs).all (fun z => Nat.ble z.1.1 pc && Nat.blt pc z.1.2.1 && Nat.beq z.1.2.2.1 z.2.2 && !(Nat.beq z.1.2.2.2 0) && lm_hct.any (fun q => Nat.beq q.1 z.1.2.2.2 && Nat.beq q.2.1 z.2.1)))
def lm_tgB (pc : Nat) (off : Int) : Bool := decide (0 ≤ (pc : Int) + off)
def lm_chkR (t : lm_Tb) (ini : Bool) (cl : List vw_C) (cc : ByteArray) (ret : Option FieldType) (nL : Nat) (hh : List (Nat × Nat × Nat × Nat)) (hs : List (Nat × Nat)) (pf : List Nat) (pc el : Nat) (ins : Instr) (raw : Instr) (len : Nat) : Bool :=
  match ins with
  | .iconst v => (match raw with
    | .iconst n => decide (n = v) && Nat.beq len 1 && Nat.beq el 1
    | .bipush n => decide ((Int8.ofInt n).toInt32 = Int32.ofInt v) && Nat.beq len 2 && Nat.beq el 2
    | .sipush n => decide ((Int16.ofInt n).toInt32 = Int32.ofInt v) && Nat.beq len 3 && Nat.beq el 3
    | .ldc n => t.cT.any (fun q => Nat.beq q.1 n && decide (q.2.1 = v)) && Nat.beq len 2 && Nat.beq el 2
    | .ldc_w n => t.cT.any (fun q => Nat.beq q.1 n && decide (q.2.1 = v)) && Nat.beq len 3 && Nat.beq el 3
    | _ => false)
  | .ldc2_w v => (match raw with
    | .lconst n => Nat.beq n.val v && Nat.beq len 1 && Nat.beq el 1
    | .ldc2_w n => t.lT.any (fun q => Nat.beq q.1 n && Nat.beq q.2.1 v) && Nat.beq len 3 && Nat.beq el 3
    | _ => false)
  | .iload i => (match raw with
    | .iload j => Nat.beq i j && Nat.beq len 2 && Nat.beq el 2
    | .iload_n j => Nat.beq j.val i && Nat.beq len 1 && Nat.beq el 1
    | _ => false)
  | .lload i => (match raw with
    | .lload j => Nat.beq i j && Nat.beq len 2 && Nat.beq el 2
    | .lload_n j => Nat.beq j.val i && Nat.beq len 1 && Nat.beq el 1
    | _ => false)
  | .aload i => (match raw with
    | .aload j => Nat.beq i j && Nat.beq len 2 && Nat.beq el 2
    | .aload_n j => Nat.beq j.val i && Nat.beq len 1 && Nat.beq el 1
    | _ => false)
  | .istore i => Nat.blt i nL && (match raw with
    | .istore j => Nat.beq i j && Nat.beq len 2 && Nat.beq el 2
    | .istore_n j => Nat.beq j.val i && Nat.beq len 1 && Nat.beq el 1
    | _ => false)
  | .lstore i => Nat.blt (i + 1) nL && (match raw with
    | .lstore j => Nat.beq i j && Nat.beq len 2 && Nat.beq el 2
    | .lstore_n j => Nat.beq j.val i && Nat.beq len 1 && Nat.beq el 1
    | _ => false)
  | .astore i => Nat.blt i nL && (match raw with
    | .astore j => Nat.beq i j && Nat.beq len 2 && Nat.beq el 2
    | .astore_n j => Nat.beq j.val i && Nat.beq len 1 && Nat.beq el 1
    | _ => false)
  | .iinc i n => Nat.blt i nL && (match raw with
    | .iinc j k => Nat.beq i j && decide (n = k) && ((Nat.beq len 3 && Nat.beq el 3) || (Nat.beq len 6 && Nat.beq el 6))
    | _ => false)
  | .if_icmp co off => (match raw with
    | .if_icmp co' off' => decide (co' = co) && decide (off' = off) && Nat.beq len 3 && Nat.beq el 3 && lm_tgB pc off
    | _ => false)
  | .ifCond co off => (match raw with
    | .ifCond co' off' => decide (co' = co) && decide (off' = off) && Nat.beq len 3 && Nat.beq el 3 && lm_tgB pc off
    | _ => false)
  | .if_acmp co off => (match raw with
    | .if_acmp co' off' => decide (co' = co) && decide (off' = off) && Nat.beq len 3 && Nat.beq el 3 && lm_tgB pc off
    | _ => false)
  | .goto off => (match raw with
    | .goto off' => decide (off' = off) && Nat.beq len 3 && Nat.beq el 3 && lm_tgB pc off
    | _ => false)
  | .tableswitch d lo hi offs => decide (raw = .tableswitch d lo hi offs) && lm_tgB pc d && offs.toList.all (lm_tgB pc)
  | .getfield f => (match raw with
    | .getfield i => t.fT.any (fun q => Nat.beq q.1 i && Nat.beq q.2.2.1 f) && Nat.beq len 3 && Nat.beq el 3
    | _ => false)
  | .putfield f => (match raw with
    | .putfield i => t.fT.any (fun q => Nat.beq q.1 i && Nat.beq q.2.2.1 f) && (lm_fpN cl false f || (ini && pf.any (fun g => Nat.beq g f) && lm_fpN cl true f)) && Nat.beq len 3 && Nat.beq el 3
    | _ => false)
  | .getstatic k => (match raw with
    | .getstatic i => t.sT.any (fun q => Nat.beq q.1 i && Nat.beq q.2.1 k) && Nat.beq len 3 && Nat.beq el 3
    | _ => false)
  | .new ci => (match raw with
    | .new i => t.kT.any (fun q => Nat.beq q.1 i && Nat.beq q.2.1 ci) && Nat.beq len 3 && Nat.beq el 3
    | _ => false)
  | .newarray ty => (match raw with
    | .newarray ty' => decide (ty' = ty) && Nat.beq len 2 && Nat.beq el 2 && (match ty with | .int => true | .byte => true | .boolean => true | .long => true | _ => false)
    | _ => false)
  | .anewarray k => (match raw with
    | .anewarray i => t.aT.any (fun q => Nat.beq q.1 i && Nat.beq q.2.1 6) && Nat.beq len 3 && Nat.beq el 3
    | _ => false)
  | .multianewarray k n => (match raw with
    | .multianewarray i n' => t.aT.any (fun q => Nat.beq q.1 i && Nat.beq q.2.1 k) && (Nat.beq k 3 || Nat.beq k 4 || Nat.beq k 5) && Nat.beq n' 2 && Nat.beq len 4 && Nat.beq el 4
    | _ => false)
  | .monitorexit => (match raw with
    | .invokespecial i => t.iT.any (fun q => Nat.beq q.1 i) && Nat.beq len 3 && Nat.beq el 3
    | _ => false)
  | .monitorenter => (match raw with
    | .invokestatic i => t.yT.any (fun q => Nat.beq q.1 i) && Nat.beq len 3 && Nat.beq el 3
    | _ => false)
  | .invokeinterface y k => (match raw with
    | .invokestatic i => t.mS.any (fun q => Nat.beq q.1 i && Nat.beq q.2.1 y && Nat.beq q.2.2.1 (k / 4)) && Nat.beq len 3 && Nat.beq el 3 && lm_hsB t.own pc hh hs
    | _ => false)
  | .invokevirtual v => (match raw with
    | .invokevirtual i => t.mV.any (fun q => Nat.beq q.1 i && Nat.beq q.2.1 v && Nat.blt q.2.2 10000) && Nat.beq len 3 && Nat.beq el 3 && lm_hsB t.own pc hh hs
    | .invokespecial i => t.mV.any (fun q => Nat.beq q.1 i && Nat.beq q.2.1 v && Nat.ble 100000 q.2.2) && Nat.beq len 3 && Nat.beq el 3 && lm_hsB t.own pc hh hs
    | _ => false)
  | .jsr k => (match raw with
    | .new i => Nat.beq len 3 && hh.isEmpty && t.eT.any (fun q => Nat.beq q.1 i && Nat.beq q.2.2.2.1 k.toNat && decide (decode cc (pc + 3) = .ok (.dup, 1)) && ((decide (decode cc (pc + 4) = .ok (.ldc q.2.1, 2)) && decide (decode cc (pc + 4 + 2) = .ok (.invokespecial q.2.2.1, 3)) && decide (decode cc (pc + 4 + 2 + 3) = .ok (.athrow, 1))) || (decide (decode cc (pc + 4) = .ok (.ldc_w q.2.1, 3)) && decide (decode cc (pc + 4 + 3) = .ok (.invokespecial q.2.2.1, 3)) && decide (decode cc (pc + 4 + 3 + 3) = .ok (.athrow, 1)))))
    | _ => false)
  | .ireturn => decide (raw = .ireturn) && Nat.beq len 1 && decide (ret = some .int)
  | .ret _ => decide (raw = .ireturn) && Nat.beq len 1 && decide (ret = some .boolean)
  | .lreturn => decide (raw = .lreturn) && Nat.beq len 1 && decide (ret = some .long)
  | .areturn => decide (raw = .areturn) && Nat.beq len 1 && (match ret with | some (.object _) => true | some (.array _) => true | _ => false)
  | .return_ => decide (raw = .return_) && Nat.beq len 1 && decide (ret = none)
  | ins => decide (raw = ins) && Nat.beq len 1 && Nat.beq el 1
def lm_chkE (t : lm_Tb) (ini : Bool) (cl : List vw_C) (cc : ByteArray) (ret : Option FieldType) (nL : Nat) (hh : List (Nat × Nat × Nat × Nat)) (hs : List (Nat × Nat)) (pf : List Nat) (en : lm_E) : Bool :=
  match decode cc en.1 with
  | .ok q => lm_chkR t ini cl cc ret nL hh hs pf en.1 en.2.2.1 en.2.1 q.1 q.2
  | .error _ => false
section LMO
variable {p : Program} {l : Launch} {e : Env} {R : Room} {s : State} {m : MethodId} {args : Array Value} {below : List Frame} {meth : Method} {c : Code} {D : va_G} {cl : List vw_C} {tc : Nat → ClassId} {ad : Nat → Nat} {sc : lm_H} {b nL : Nat} {cc : ByteArray} {own : String} {ret : Option FieldType} {dfs : List (List Value)} {vts : List (Nat × Nat × List (Nat × Nat))} {hs : List (Nat × Nat)} {P : List lm_Y} {vx : List lm_Vx} {t : lm_Tb} {ini : Bool} {hh : List (Nat × Nat × Nat × Nat)} {ps : List (List Nat)}
theorem lm_hsB_ok (hws : ∀ w ∈ lm_W0, w.before args s = true) (hht : lm_hP cl) (hexc : c.exceptionTable.toList.map (fun h => (h.startPc, h.endPc, h.handlerPc, h.catchType)) = hh) {pc : Nat} (h : lm_hsB own pc hh hs = true) : (hs = [] ∧ ∀ x ∈ c.exceptionTable.toList, covers x pc = false) ∨ lm_hrows own args s cl pc c.exceptionTable.toList hs := by
  unfold lm_hsB at h
  simp only [Bool.or_eq_true, Bool.and_eq_true, List.isEmpty_iff, decide_eq_true_eq, Nat.beq_eq] at h
  rcases h with ⟨h1, h2⟩ | ⟨⟨h1, h2⟩, h3⟩
  · left
    refine ⟨h2, fun x hx => ?_⟩
    rw [h1] at hexc
    rw [List.map_eq_nil_iff.mp hexc] at hx
    cases hx
  · right
    rw [← hexc] at h2 h3
    clear hexc
    generalize c.exceptionTable.toList = xs at h2 h3 ⊢
    induction xs generalizing hs with
    | nil =>
      cases hs with
      | nil => trivial
      | cons _ _ => cases h2
    | cons x xs ih =>
      cases hs with
      | nil => cases h2
      | cons q hs =>
        simp only [List.map_cons, List.zip_cons_cons, List.all_cons, Bool.and_eq_true] at h3
        obtain ⟨⟨⟨⟨⟨a1, a2⟩, a3⟩, a4⟩, a5⟩, h4⟩ := h3
        refine ⟨?_, ih (by simpa using h2) h4⟩
        obtain ⟨z, hz, hz2⟩ := List.any_eq_true.mp a5
        simp only [Bool.and_eq_true, Nat.beq_eq] at hz2
        obtain ⟨n, T, hC, hn, hw⟩ := hht z hz
        refine ⟨?_, ?_, Nat.eq_of_beq_eq_true a3, n, T, by rw [← hz2.2]; exact hC, hn, ?_⟩
        · simp only [covers, Bool.and_eq_true, decide_eq_true_eq]
          exact ⟨Nat.le_of_ble_eq_true a1, by simpa using a2⟩
        · intro h0
          rw [h0] at a4
          cases a4
        · rw [h1, ← hz2.1]
          exact hws _ hw
end LMO
