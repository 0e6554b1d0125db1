/-! ===== THE LITE MACHINE: a heap of cells by PLACE, a frame as lists, code by regions; a value of lm_M is a run ===== -/
/-- a cell: ints (0 int, 1 byte, 2 boolean), longs, references (3 [[I, 4 [[B, 5 [[Z, 6 Bytes[]), an object (class number, fields) -/
abbrev lm_C : Type := (Nat × List Int32) ⊕ (List Int64 ⊕ ((Nat × List (Option Nat)) ⊕ (Nat × List Value)))
abbrev lm_H : Type := List lm_C
/-- heap, cells left, slots left -/
abbrev lm_S : Type := lm_H × Nat × Nat
abbrev lm_M (α : Type) : Type := lm_S → Option (Except Nat α × lm_S)
abbrev lm_L : Type := List (Nat × Value)
abbrev lm_F : Type := Nat × lm_L × List Value
/-- pc, instruction, length; where a jump leaves the region: the locals to keep; where going on leaves it: the same -/
abbrev lm_E : Type := Nat × Instr × Nat × Option (List Nat) × Option (List Nat)
abbrev lm_R : Type := Option Value
def lm_ret {α : Type} (a : α) : lm_M α := fun s => some (.ok a, s)
def lm_bad {α : Type} : lm_M α := fun _ => none
def lm_bind {α β : Type} (x : lm_M α) (f : α → lm_M β) : lm_M β := fun s =>
  match x s with
  | none => none
  | some (.error e, t) => some (.error e, t)
  | some (.ok a, t) => f a t
/-- places from here on are the static cells (read only) -/
abbrev lm_B : Nat := 1000000
def lm_cell (sc h : lm_H) (q : Nat) : Option lm_C := if q < lm_B then h[q]? else sc[q - lm_B]?
def lm_iald (sc : lm_H) (q : Nat) (i : Int32) : lm_M Int32 := fun s =>
  match lm_cell sc s.1 q with
  | some (.inl (u, xs)) => if u = 0 ∧ ¬ i < 0 ∧ i.toNatClampNeg < xs.length then some (.ok (xs.getD i.toNatClampNeg 0), s) else none
  | _ => none
def lm_bald (sc : lm_H) (q : Nat) (i : Int32) : lm_M Int32 := fun s =>
  match lm_cell sc s.1 q with
  | some (.inl (u, xs)) => if (u = 1 ∨ u = 2) ∧ ¬ i < 0 ∧ i.toNatClampNeg < xs.length then some (.ok (xs.getD i.toNatClampNeg 0), s) else none
  | _ => none
def lm_lald (sc : lm_H) (q : Nat) (i : Int32) : lm_M Int64 := fun s =>
  match lm_cell sc s.1 q with
  | some (.inr (.inl xs)) => if ¬ i < 0 ∧ i.toNatClampNeg < xs.length then some (.ok (xs.getD i.toNatClampNeg 0), s) else none
  | _ => none
def lm_aald (sc : lm_H) (q : Nat) (i : Int32) : lm_M (Option Nat) := fun s =>
  match lm_cell sc s.1 q with
  | some (.inr (.inr (.inl (u, xs)))) => if (3 ≤ u ∧ u ≤ 6) ∧ ¬ i < 0 ∧ i.toNatClampNeg < xs.length then some (.ok (xs.getD i.toNatClampNeg none), s) else none
  | _ => none
def lm_alen (sc : lm_H) (q : Nat) : lm_M Int32 := fun s =>
  match lm_cell sc s.1 q with
  | some (.inl (u, xs)) => if u ≤ 2 then some (.ok (Int32.ofNat xs.length), s) else none
  | some (.inr (.inl xs)) => some (.ok (Int32.ofNat xs.length), s)
  | some (.inr (.inr (.inl (u, xs)))) => if 3 ≤ u ∧ u ≤ 6 then some (.ok (Int32.ofNat xs.length), s) else none
  | _ => none
def lm_iast (q : Nat) (i x : Int32) : lm_M Unit := fun s =>
  if q < lm_B then
    match s.1[q]? with
    | some (.inl (u, xs)) => if u = 0 ∧ ¬ i < 0 ∧ i.toNatClampNeg < xs.length then some (.ok (), (s.1.set q (.inl (u, xs.set i.toNatClampNeg x)), s.2)) else none
    | _ => none
  else none
def lm_bast (q : Nat) (i x : Int32) : lm_M Unit := fun s =>
  if q < lm_B then
    match s.1[q]? with
    | some (.inl (u, xs)) => if (u = 1 ∨ u = 2) ∧ ¬ i < 0 ∧ i.toNatClampNeg < xs.length then some (.ok (), (s.1.set q (.inl (u, xs.set i.toNatClampNeg (if u = 1 then vp_nar .byte x else vp_nar .boolean x))), s.2)) else none
    | _ => none
  else none
def lm_last (q : Nat) (i : Int32) (x : Int64) : lm_M Unit := fun s =>
  if q < lm_B then
    match s.1[q]? with
    | some (.inr (.inl xs)) => if ¬ i < 0 ∧ i.toNatClampNeg < xs.length then some (.ok (), (s.1.set q (.inr (.inl (xs.set i.toNatClampNeg x))), s.2)) else none
    | _ => none
  else none
/-- the class number of the objects of Bytes -/
abbrev lm_kBytes : Nat := 1
def lm_aast (q : Nat) (i : Int32) (r : Nat) : lm_M Unit := fun s =>
  if q < lm_B ∧ r < lm_B then
    match s.1[q]?, s.1[r]? with
    | some (.inr (.inr (.inl (u, xs)))), some (.inr (.inr (.inr (c, _)))) => if u = 6 ∧ c = lm_kBytes ∧ ¬ i < 0 ∧ i.toNatClampNeg < xs.length then some (.ok (), (s.1.set q (.inr (.inr (.inl (u, xs.set i.toNatClampNeg (some r))))), s.2)) else none
    | _, _ => none
  else none
/-- is an object of class c one of the class r? (class 3 is Hash, above 5, 6, 7: Sponge, Sha256, Sha512) -/
def lm_sub (r c : Nat) : Bool := Nat.beq r c || (Nat.beq r 3 && (Nat.beq c 5 || Nat.beq c 6 || Nat.beq c 7))
/-- field e = (class * 100 + number) * 4 + kind (0 int, 1 long, 2 reference, 3 boolean) -/
def lm_getf (e q : Nat) : lm_M Value := fun s =>
  match s.1[q]? with
  | some (.inr (.inr (.inr (c, fs)))) => if q < lm_B ∧ lm_sub (e / 400) c = true then
      match fs[e / 4 % 100]? with
      | some v => some (.ok v, s)
      | none => none
    else none
  | _ => none
def lm_fits (k : Nat) (v : Value) : Bool :=
  match v with
  | .int x => Nat.beq k 0 || (Nat.beq k 3 && (decide (x = 0) || decide (x = 1)))
  | .long _ => Nat.beq k 1
  | .ref _ => Nat.beq k 2
  | .null => Nat.beq k 2
  | _ => false
def lm_putf (e q : Nat) (v : Value) : lm_M Unit := fun s =>
  match s.1[q]? with
  | some (.inr (.inr (.inr (c, fs)))) => if q < lm_B ∧ lm_sub (e / 400) c = true ∧ e / 4 % 100 < fs.length ∧ lm_fits (e % 4) v = true then
      some (.ok (), (s.1.set q (.inr (.inr (.inr (c, fs.set (e / 4 % 100) v)))), s.2))
    else none
  | _ => none
/-- a new cell: room for it, its slots -/
def lm_push (c : lm_C) (n : Nat) : lm_M Nat := fun s =>
  if s.1.length + 1 < lm_B ∧ 1 ≤ s.2.1 ∧ n ≤ s.2.2 then some (.ok s.1.length, (s.1 ++ [c], s.2.1 - 1, s.2.2 - n)) else none
def lm_newa (t : ArrayType) (n : Int32) : lm_M Nat :=
  if ¬ n < 0 ∧ n.toNatClampNeg ≤ 1000000 then
    match t with
    | .int => lm_push (.inl (0, List.replicate n.toNatClampNeg 0)) n.toNatClampNeg
    | .byte => lm_push (.inl (1, List.replicate n.toNatClampNeg 0)) n.toNatClampNeg
    | .boolean => lm_push (.inl (2, List.replicate n.toNatClampNeg 0)) n.toNatClampNeg
    | .long => lm_push (.inr (.inl (List.replicate n.toNatClampNeg 0))) n.toNatClampNeg
    | _ => lm_bad
  else lm_bad
def lm_newr (t : Nat) (n : Int32) : lm_M Nat :=
  if ¬ n < 0 ∧ n.toNatClampNeg ≤ 1000000 ∧ t = 6 then lm_push (.inr (.inr (.inl (t, List.replicate n.toNatClampNeg none)))) n.toNatClampNeg else lm_bad
/-- new T[n][k]: the outer array, then its rows -/
def lm_newm (t : Nat) (n k : Int32) : lm_M Nat := fun s =>
  if ¬ n < 0 ∧ n.toNatClampNeg ≤ 1000000 ∧ ¬ k < 0 ∧ k.toNatClampNeg ≤ 1000000 ∧ 3 ≤ t ∧ t ≤ 5 ∧ s.1.length + 1 + n.toNatClampNeg < lm_B ∧ 1 + n.toNatClampNeg ≤ s.2.1 ∧ n.toNatClampNeg + n.toNatClampNeg * k.toNatClampNeg ≤ s.2.2 then
    some (.ok s.1.length, (s.1 ++ (.inr (.inr (.inl (t, (List.range n.toNatClampNeg).map fun i => some (s.1.length + 1 + i)))) :: List.replicate n.toNatClampNeg (.inl (t - 3, List.replicate k.toNatClampNeg 0))), s.2.1 - (1 + n.toNatClampNeg), s.2.2 - (n.toNatClampNeg + n.toNatClampNeg * k.toNatClampNeg)))
  else none
/-- the exception of class number k -/
def lm_thr {α : Type} (k : Nat) : lm_M α := fun s =>
  if s.1.length + 1 < lm_B ∧ 1 ≤ s.2.1 ∧ 6 ≤ s.2.2 then some (.error s.1.length, (s.1 ++ [.inr (.inr (.inr (k, [])))], s.2.1 - 1, s.2.2 - 6)) else none
/-- xs with ys[sp ..] laid at dp, n of them -/
def lm_lay {α : Type} (xs ys : List α) (sp dp n : Nat) : List α := xs.take dp ++ ((ys.drop sp).take n ++ xs.drop (dp + n))
def lm_copy (sc : lm_H) (a : Nat) (sp : Int32) (b : Nat) (dp n : Int32) : lm_M Unit := fun s =>
  if b < lm_B ∧ ¬ sp < 0 ∧ ¬ dp < 0 ∧ ¬ n < 0 then
    match lm_cell sc s.1 a, s.1[b]? with
    | some (.inl (u, ys)), some (.inl (v, xs)) => if u = v ∧ (u = 0 ∨ u = 1) ∧ sp.toNatClampNeg + n.toNatClampNeg ≤ ys.length ∧ dp.toNatClampNeg + n.toNatClampNeg ≤ xs.length then
        some (.ok (), (s.1.set b (.inl (v, lm_lay xs ys sp.toNatClampNeg dp.toNatClampNeg n.toNatClampNeg)), s.2)) else none
    | some (.inr (.inl ys)), some (.inr (.inl xs)) => if sp.toNatClampNeg + n.toNatClampNeg ≤ ys.length ∧ dp.toNatClampNeg + n.toNatClampNeg ≤ xs.length then
        some (.ok (), (s.1.set b (.inr (.inl (lm_lay xs ys sp.toNatClampNeg dp.toNatClampNeg n.toNatClampNeg))), s.2)) else none
    | _, _ => none
  else none
/-! locals -/
noncomputable def lm_lk (l : lm_L) (i : Nat) : Option Value := List.rec (motive := fun _ => Option Value) none (fun q _ ih => cond (Nat.beq q.1 i) (some q.2) ih) l
def lm_s1 (l : lm_L) (i : Nat) (v : Value) : lm_L := (i, v) :: l.filter (fun q => !(q.1 == i) && !(q.1 + 1 == i && q.2.category == 2))
def lm_s2 (l : lm_L) (i : Nat) (v : Value) : lm_L := (i, v) :: l.filter (fun q => !(q.1 == i) && (!(q.1 == i + 1) && !(q.1 + 1 == i && q.2.category == 2)))
noncomputable def lm_keep (ks : List Nat) (l : lm_L) : lm_L := ks.filterMap (fun i => (lm_lk l i).map (fun v => (i, v)))
/-! calls -/
/-- the class number of an object -/
def lm_cls (h : lm_H) (q : Nat) : Option Nat :=
  match h[q]? with
  | some (.inr (.inr (.inr (c, _)))) => if q < lm_B then some c else none
  | _ => none
def lm_find (hs : List (Nat × Nat)) (c : Option Nat) : Option Nat :=
  match c with
  | none => none
  | some c => (hs.find? (fun q => Nat.beq q.1 c)).map (fun q => q.2)
def lm_try {α : Type} (x : lm_M α) (hs : List (Nat × Nat)) (ok : α → lm_M lm_R) (ca : Nat → Nat → lm_M lm_R) : lm_M lm_R := fun s =>
  match x s with
  | none => none
  | some (.ok a, t) => ok a t
  | some (.error q, t) => match lm_find hs (lm_cls t.1 q) with
    | some pc => ca pc q t
    | none => none
/-- the method that a virtual call goes to, by the receiver's class -/
def lm_sel (vt : List (Nat × Nat)) (a : Option Value) : lm_M Nat := fun s =>
  match a with
  | some (.ref q) => match lm_find vt (lm_cls s.1 q) with
    | some y => some (.ok y, s)
    | none => none
  | _ => none
/-! one instruction -/
def lm_cmp (c : Jvm.ClassFile.Cond) (x y : Int32) : Prop :=
  match c with
  | .eq => x = y | .ne => ¬ x = y | .lt => x < y | .ge => y ≤ x | .gt => y < x | .le => x ≤ y
def lm_cmpD (c : Jvm.ClassFile.Cond) (x y : Int32) : Decidable (lm_cmp c x y) :=
  match c with
  | .eq => inferInstanceAs (Decidable (x = y)) | .ne => inferInstanceAs (Decidable (¬ x = y)) | .lt => inferInstanceAs (Decidable (x < y)) | .ge => inferInstanceAs (Decidable (y ≤ x)) | .gt => inferInstanceAs (Decidable (y < x)) | .le => inferInstanceAs (Decidable (x ≤ y))
def lm_ref (r : Option Nat) : Value := match r with
  | none => .null
  | some a => .ref a
/-! by kind, so that what comes back is a number or a place -/
def lm_asI (x : lm_M lm_R) : lm_M Int32 := lm_bind x fun r => match r with
  | some (.int v) => lm_ret v
  | _ => lm_bad
def lm_asL (x : lm_M lm_R) : lm_M Int64 := lm_bind x fun r => match r with
  | some (.long v) => lm_ret v
  | _ => lm_bad
def lm_asR (x : lm_M lm_R) : lm_M Nat := lm_bind x fun r => match r with
  | some (.ref v) => lm_ret v
  | _ => lm_bad
def lm_asV (x : lm_M lm_R) : lm_M Unit := lm_bind x fun r => match r with
  | none => lm_ret ()
  | _ => lm_bad
def lm_gI (e q : Nat) : lm_M Int32 := lm_bind (lm_getf e q) fun v => match v with
  | .int x => lm_ret x
  | _ => lm_bad
def lm_gL (e q : Nat) : lm_M Int64 := lm_bind (lm_getf e q) fun v => match v with
  | .long x => lm_ret x
  | _ => lm_bad
def lm_gR (e q : Nat) : lm_M Nat := lm_bind (lm_getf e q) fun v => match v with
  | .ref x => lm_ret x
  | _ => lm_bad
def lm_aaR (sc : lm_H) (q : Nat) (i : Int32) : lm_M Nat := lm_bind (lm_aald sc q i) fun v => match v with
  | some x => lm_ret x
  | none => lm_bad
/-- the weight of a stack -/
def lm_wt (st : List Value) : Nat := (st.map fun v => v.category).sum
/-- a call's run x, what it gives back by kind (0 none, 1 int, 2 long, 3 a place) -/
def lm_inv (x : lm_M lm_R) (hs : List (Nat × Nat)) (rk : Nat) (ok : List Value → lm_M lm_R) (ca : Nat → Nat → lm_M lm_R) : lm_M lm_R :=
  match hs with
  | [] => (match rk with
    | 0 => lm_bind (lm_asV x) fun _ => ok []
    | 1 => lm_bind (lm_asI x) fun v => ok [.int v]
    | 2 => lm_bind (lm_asL x) fun v => ok [.long v]
    | _ => lm_bind (lm_asR x) fun v => ok [.ref v])
  | h :: hs => (match rk with
    | 0 => lm_try (lm_asV x) (h :: hs) (fun _ => ok []) ca
    | 1 => lm_try (lm_asI x) (h :: hs) (fun v => ok [.int v]) ca
    | 2 => lm_try (lm_asL x) (h :: hs) (fun v => ok [.long v]) ca
    | _ => lm_try (lm_asR x) (h :: hs) (fun v => ok [.ref v]) ca)
section LMI
variable (sc : lm_H) (ρ : Nat → List Value → lm_M lm_R) (vts : List (Nat × Nat × List (Nat × Nat))) (dfs : List (List Value)) (hs : List (Nat × Nat))
def lm_i2 (st : List Value) (f : Int32 → Int32 → List Value → lm_M lm_R) : lm_M lm_R := match st with
  | .int y :: .int x :: st => f x y st
  | _ => lm_bad
def lm_i1 (st : List Value) (f : Int32 → List Value → lm_M lm_R) : lm_M lm_R := match st with
  | .int x :: st => f x st
  | _ => lm_bad
def lm_l2 (st : List Value) (f : Int64 → Int64 → List Value → lm_M lm_R) : lm_M lm_R := match st with
  | .long y :: .long x :: st => f x y st
  | _ => lm_bad
def lm_l1 (st : List Value) (f : Int64 → List Value → lm_M lm_R) : lm_M lm_R := match st with
  | .long x :: st => f x st
  | _ => lm_bad
def lm_li (st : List Value) (f : Int64 → Int32 → List Value → lm_M lm_R) : lm_M lm_R := match st with
  | .int y :: .long x :: st => f x y st
  | _ => lm_bad
def lm_r1 (st : List Value) (f : Nat → List Value → lm_M lm_R) : lm_M lm_R := match st with
  | .ref q :: st => f q st
  | _ => lm_bad
/-- an array and an index -/
def lm_ri (st : List Value) (f : Nat → Int32 → List Value → lm_M lm_R) : lm_M lm_R := match st with
  | .int i :: .ref q :: st => f q i st
  | _ => lm_bad
def lm_v1 (st : List Value) (f : Value → List Value → lm_M lm_R) : lm_M lm_R := match st with
  | v :: st => f v st
  | _ => lm_bad
def lm_opt {α : Type} (o : Option α) (f : α → lm_M lm_R) : lm_M lm_R := match o with
  | some a => f a
  | none => lm_bad
def lm_ldI (o : Option Value) (f : Int32 → lm_M lm_R) : lm_M lm_R := match o with
  | some (.int x) => f x
  | _ => lm_bad
def lm_ldL (o : Option Value) (f : Int64 → lm_M lm_R) : lm_M lm_R := match o with
  | some (.long x) => f x
  | _ => lm_bad
def lm_ldR (o : Option Value) (f : Nat → lm_M lm_R) : lm_M lm_R := match o with
  | some (.ref x) => f x
  | _ => lm_bad
def lm_oneI (st : List Value) (f : Int32 → lm_M lm_R) : lm_M lm_R := match st with
  | [.int x] => f x
  | _ => lm_bad
def lm_oneL (st : List Value) (f : Int64 → lm_M lm_R) : lm_M lm_R := match st with
  | [.long x] => f x
  | _ => lm_bad
def lm_oneR (st : List Value) (f : Nat → lm_M lm_R) : lm_M lm_R := match st with
  | [.ref x] => f x
  | _ => lm_bad
def lm_none (st : List Value) (f : lm_M lm_R) : lm_M lm_R := match st with
  | [] => f
  | _ => lm_bad
def lm_k4 (k : Nat) (a b c d : lm_M lm_R) : lm_M lm_R := match k with
  | 0 => a
  | 1 => b
  | 2 => c
  | _ => d
def lm_when (p : Prop) (q : Decidable p) (a : lm_M lm_R) : lm_M lm_R := @ite _ p q a lm_bad
def lm_if (c : Jvm.ClassFile.Cond) (x y : Int32) (a b : lm_M lm_R) : lm_M lm_R := @ite _ (lm_cmp c x y) (lm_cmpD c x y) a b
def lm_tgt (pc : Nat) (off : Int) : Nat := ((pc : Int) + off).toNat
noncomputable def lm_ins (ins : Instr) (pc : Nat) (lv : lm_L) (st : List Value) (next : lm_L → List Value → lm_M lm_R) (jump : Nat → lm_L → List Value → lm_M lm_R) : lm_M lm_R :=
  match ins with
  | .iconst v => next lv (.int (Int32.ofInt v) :: st)
  | .ldc2_w n => next lv (.long (Int64.ofNat n) :: st)
  | .iload i => lm_ldI (lm_lk lv i) fun x => next lv (.int x :: st)
  | .lload i => lm_ldL (lm_lk lv i) fun x => next lv (.long x :: st)
  | .aload i => lm_ldR (lm_lk lv i) fun x => next lv (.ref x :: st)
  | .istore i => lm_i1 st fun x st => next (lm_s1 lv i (.int x)) st
  | .lstore i => lm_l1 st fun x st => next (lm_s2 lv i (.long x)) st
  | .astore i => lm_r1 st fun x st => next (lm_s1 lv i (.ref x)) st
  | .iinc i n => lm_ldI (lm_lk lv i) fun x => next (lm_s1 lv i (.int (x + Int32.ofInt n))) st
  | .iadd => lm_i2 st fun x y st => next lv (.int (x + y) :: st)
  | .isub => lm_i2 st fun x y st => next lv (.int (x - y) :: st)
  | .imul => lm_i2 st fun x y st => next lv (.int (x * y) :: st)
  | .iand => lm_i2 st fun x y st => next lv (.int (x &&& y) :: st)
  | .ior => lm_i2 st fun x y st => next lv (.int (x ||| y) :: st)
  | .ixor => lm_i2 st fun x y st => next lv (.int (x ^^^ y) :: st)
  | .idiv => lm_i2 st fun x y st => lm_when (¬ y = 0) inferInstance (next lv (.int (x / y) :: st))
  | .irem => lm_i2 st fun x y st => lm_when (¬ y = 0) inferInstance (next lv (.int (x - x / y * y) :: st))
  | .ishl => lm_i2 st fun x y st => next lv (.int (x <<< (y &&& 31)) :: st)
  | .ishr => lm_i2 st fun x y st => next lv (.int (x >>> (y &&& 31)) :: st)
  | .iushr => lm_i2 st fun x y st => next lv (.int ((x.toUInt32 >>> (y.toUInt32 &&& Int32.toUInt32 31)).toInt32) :: st)
  | .ineg => lm_i1 st fun x st => next lv (.int (-x) :: st)
  | .i2b => lm_i1 st fun x st => next lv (.int x.toInt8.toInt32 :: st)
  | .i2l => lm_i1 st fun x st => next lv (.long x.toInt64 :: st)
  | .l2i => lm_l1 st fun x st => next lv (.int x.toInt32 :: st)
  | .ladd => lm_l2 st fun x y st => next lv (.long (x + y) :: st)
  | .lsub => lm_l2 st fun x y st => next lv (.long (x - y) :: st)
  | .lmul => lm_l2 st fun x y st => next lv (.long (x * y) :: st)
  | .land => lm_l2 st fun x y st => next lv (.long (x &&& y) :: st)
  | .lor => lm_l2 st fun x y st => next lv (.long (x ||| y) :: st)
  | .lxor => lm_l2 st fun x y st => next lv (.long (x ^^^ y) :: st)
  | .ldiv => lm_l2 st fun x y st => lm_when (¬ y = 0) inferInstance (next lv (.long (x / y) :: st))
  | .lrem => lm_l2 st fun x y st => lm_when (¬ y = 0) inferInstance (next lv (.long (x - x / y * y) :: st))
  | .lshl => lm_li st fun x y st => next lv (.long (x <<< (y.toInt64 &&& 63)) :: st)
  | .lshr => lm_li st fun x y st => next lv (.long (x >>> (y.toInt64 &&& 63)) :: st)
  | .lushr => lm_li st fun x y st => next lv (.long ((x.toUInt64 >>> (y.toInt64.toUInt64 &&& Int64.toUInt64 63)).toInt64) :: st)
  | .lcmp => lm_l2 st fun x y st => next lv (.int (lg_cmp x y) :: st)
  | .dup => lm_v1 st fun v st => cond (Nat.beq v.category 1) (next lv (v :: v :: st)) lm_bad
  | .pop => lm_v1 st fun v st => cond (Nat.beq v.category 1) (next lv st) lm_bad
  | .dup_x1 => lm_v1 st fun v st => lm_v1 st fun w st => cond (Nat.beq v.category 1) (cond (Nat.beq w.category 1) (next lv (v :: w :: v :: st)) lm_bad) lm_bad
  | .dup2 => lm_v1 st fun v st => cond (Nat.beq v.category 1) (lm_v1 st fun w st => cond (Nat.beq w.category 1) (next lv (v :: w :: v :: w :: st)) lm_bad) (next lv (v :: v :: st))
  | .if_icmp c off => lm_i2 st fun x y st => lm_if c x y (jump (lm_tgt pc off) lv st) (next lv st)
  | .ifCond c off => lm_i1 st fun x st => lm_if c x 0 (jump (lm_tgt pc off) lv st) (next lv st)
  | .if_acmp .eq off => lm_r1 st fun y st => lm_r1 st fun x st => lm_when (x < lm_B ∧ y < lm_B) inferInstance (if x = y then jump (lm_tgt pc off) lv st else next lv st)
  | .goto off => jump (lm_tgt pc off) lv st
  | .tableswitch d lo hi offs => lm_i1 st fun x st => if x.toInt < lo ∨ hi < x.toInt then jump (lm_tgt pc d) lv st else
      lm_opt (offs[(x.toInt - lo).toNat]?) fun off => jump (lm_tgt pc off) lv st
  | .getfield e => lm_r1 st fun q st => lm_k4 (e % 4) (lm_bind (lm_gI e q) fun v => next lv (.int v :: st)) (lm_bind (lm_gL e q) fun v => next lv (.long v :: st)) (lm_bind (lm_gR e q) fun v => next lv (.ref v :: st)) (lm_bind (lm_gI e q) fun v => next lv (.int v :: st))
  | .putfield e => lm_v1 st fun v st => lm_r1 st fun q st => lm_bind (lm_putf e q v) fun _ => next lv st
  | .getstatic k => next lv (.ref (lm_B + k) :: st)
  | .iaload => lm_ri st fun q i st => lm_bind (lm_iald sc q i) fun v => next lv (.int v :: st)
  | .baload => lm_ri st fun q i st => lm_bind (lm_bald sc q i) fun v => next lv (.int v :: st)
  | .laload => lm_ri st fun q i st => lm_bind (lm_lald sc q i) fun v => next lv (.long v :: st)
  | .aaload => lm_ri st fun q i st => lm_bind (lm_aaR sc q i) fun v => next lv (.ref v :: st)
  | .arraylength => lm_r1 st fun q st => lm_bind (lm_alen sc q) fun v => next lv (.int v :: st)
  | .iastore => lm_i1 st fun x st => lm_ri st fun q i st => lm_bind (lm_iast q i x) fun _ => next lv st
  | .bastore => lm_i1 st fun x st => lm_ri st fun q i st => lm_bind (lm_bast q i x) fun _ => next lv st
  | .lastore => lm_l1 st fun x st => lm_ri st fun q i st => lm_bind (lm_last q i x) fun _ => next lv st
  | .aastore => lm_r1 st fun x st => lm_ri st fun q i st => lm_bind (lm_aast q i x) fun _ => next lv st
  | .newarray t => lm_i1 st fun n st => lm_bind (lm_newa t n) fun q => next lv (.ref q :: st)
  | .new c => lm_opt (dfs[c]?) fun fs => lm_bind (lm_push (.inr (.inr (.inr (c, fs)))) fs.length) fun q => next lv (.ref q :: st)
  | .anewarray t => lm_i1 st fun n st => lm_bind (lm_newr t n) fun q => next lv (.ref q :: st)
  | .multianewarray t _ => lm_i2 st fun n k st => lm_bind (lm_newm t n k) fun q => next lv (.ref q :: st)
  -- pop of Object.<init>'s receiver
  | .monitorexit => lm_r1 st fun _ st => cond (Nat.ble (lm_wt st) 20) (next lv st) lm_bad
  -- System.arraycopy
  | .monitorenter => lm_i2 st fun dp n st => lm_r1 st fun b st => lm_ri st fun a sp st => cond (Nat.ble (lm_wt st) 20) (lm_bind (lm_copy sc a sp b dp n) fun _ => next lv st) lm_bad
  -- a call of one method: its number, how many arguments * 4 + the kind of what it gives back
  | .invokeinterface y k => cond (Nat.ble (k / 4) st.length) (cond (Nat.ble (lm_wt (st.drop (k / 4))) 20) (lm_inv (ρ y (st.take (k / 4)).reverse) hs (k % 4) (fun r => next lv (r ++ st.drop (k / 4))) (fun h q => jump h lv [.ref q])) lm_bad) lm_bad
  -- a call by the receiver's kind
  | .invokevirtual v => lm_opt (vts[v]?) fun w => cond (Nat.ble w.1 st.length) (cond (Nat.ble (lm_wt (st.drop w.1)) 20) (lm_bind (lm_sel w.2.2 (st.take w.1).reverse.head?) fun y => lm_inv (ρ y (st.take w.1).reverse) hs w.2.1 (fun r => next lv (r ++ st.drop w.1)) (fun h q => jump h lv [.ref q])) lm_bad) lm_bad
  -- throw new X("..")
  | .jsr k => cond (Nat.ble (lm_wt st) 20) (lm_thr k.toNat) lm_bad
  | .ireturn => lm_oneI st fun x => lm_ret (some (.int x))
  | .ret _ => lm_oneI st fun x => lm_when (x = 0 ∨ x = 1) inferInstance (lm_ret (some (.int x)))
  | .lreturn => lm_oneL st fun x => lm_ret (some (.long x))
  | .areturn => lm_oneR st fun x => lm_ret (some (.ref x))
  | .return_ => lm_none st (lm_ret none)
  | _ => lm_bad
end LMI
noncomputable def lm_go (back : lm_F → lm_M lm_R) (ih : Nat → lm_L → List Value → lm_M lm_R) (o : Option (List Nat)) (u : Nat) (lv : lm_L) (st : List Value) : lm_M lm_R :=
  match o with
  | none => ih u lv st
  | some ks => back (u, lm_keep ks lv, st)
/-- a region, from the pc t on -/
noncomputable def lm_blk (sc : lm_H) (ρ : Nat → List Value → lm_M lm_R) (vts : List (Nat × Nat × List (Nat × Nat))) (dfs : List (List Value)) (hs : List (Nat × Nat)) (back : lm_F → lm_M lm_R) (es : List lm_E) : Nat → lm_L → List Value → lm_M lm_R :=
  List.rec (motive := fun _ => Nat → lm_L → List Value → lm_M lm_R) (fun _ _ _ => lm_bad)
    (fun e _ ih t lv st => cond (Nat.beq e.1 t)
      (lm_ins sc ρ vts dfs hs e.2.1 e.1 lv st (lm_go back ih e.2.2.2.2 (e.1 + e.2.2.1)) (lm_go back ih e.2.2.2.1))
      (ih t lv st)) es
/-- a method's run from a frame on; n: how often it may pass from region to region -/
noncomputable def lm_run (sc : lm_H) (ρ : Nat → List Value → lm_M lm_R) (vts : List (Nat × Nat × List (Nat × Nat))) (dfs : List (List Value)) (hs : List (Nat × Nat)) (code : Nat → List lm_E) (n : Nat) : lm_F → lm_M lm_R :=
  Nat.rec (motive := fun _ => lm_F → lm_M lm_R) (fun _ => lm_bad) (fun _ ih f => lm_blk sc ρ vts dfs hs ih (code f.1) f.1 f.2.1 f.2.2) n
