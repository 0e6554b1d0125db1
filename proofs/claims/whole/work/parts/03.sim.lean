/-! ===== THE TIE between the lite machine and the machine ===== -/
def lm_v (ad : Nat → Nat) (v : Value) : Value := match v with
  | .ref q => .ref (ad q)
  | v => v
def lm_e (tc : Nat → ClassId) (ad : Nat → Nat) (c : lm_C) : va_E := match c with
  | .inl (u, xs) => .inl (tc u, (xs.length, .inl (fun j => xs.getD j 0)))
  | .inr (.inl xs) => .inl (tc 7, (xs.length, .inr (.inl (fun j => xs.getD j 0))))
  | .inr (.inr (.inl (u, xs))) => .inl (tc u, (xs.length, .inr (.inr (.inr (.inr (fun j => (xs.getD j none).map ad))))))
  | .inr (.inr (.inr (c, fs))) => .inr (c, fs.map (lm_v ad))
def lm_ws (b : Nat) (tc : Nat → ClassId) (ad : Nat → Nat) (h : lm_H) : va_W := h.mapIdx (fun k c => (b + k, lm_e tc ad c))
def lm_tys (tc : Nat → ClassId) : List (ClassId × FieldType) := [(tc 0, .int), (tc 1, .byte), (tc 2, .boolean), (tc 3, .array .int), (tc 4, .array .byte), (tc 5, .array .boolean), (tc 6, .object "LatticeSuite$Bytes"), (tc 7, .long)]
/-- what byte arrays hold are bytes -/
def lm_okC (c : lm_C) : Prop := ∀ xs, c = .inl (1, xs) → ∀ x ∈ xs, fits .byte (.int x) = true
def lm_okH (h : lm_H) : Prop := ∀ (q : Nat) (c : lm_C), h[q]? = some c → lm_okC c
/-- the static arrays, in the order of their places (the script's own place comes first) -/
def lm_sts : List (String × String × String) := [("LatticeSuite", "HASH_SIZES", "[I"), ("LatticeSuite$Sha512", "SQUARE_ROOTS", "[J"), ("LatticeSuite$Sha512", "START_224", "[J"), ("LatticeSuite$Sha512", "START_256", "[J"), ("LatticeSuite$Sha512", "CUBE_ROOTS", "[J"), ("LatticeSuite$Sponge", "ROUNDS", "[J"), ("LatticeSuite$Dsa", "ROWS", "[I"), ("LatticeSuite$Dsa", "COLUMNS", "[I"), ("LatticeSuite$Dsa", "ETAS", "[I"), ("LatticeSuite$Signed", "HASH_NAME", "[B"), ("LatticeSuite$Dsa", "GAMMAS_1", "[I"), ("LatticeSuite$Dsa", "GAMMAS_2", "[I"), ("LatticeSuite$Dsa", "CHALLENGE_SIZES", "[I"), ("LatticeSuite$Dsa", "TAUS", "[I"), ("LatticeSuite$Dsa", "OMEGAS", "[I"), ("LatticeSuite$Slh", "SIZES", "[I"), ("LatticeSuite$Slh", "LAYERS", "[I"), ("LatticeSuite$Slh", "HEIGHTS", "[I"), ("LatticeSuite$Slh", "FOREST_HEIGHTS", "[I"), ("LatticeSuite$Slh", "FOREST_TREES", "[I")]
/-- the texts of the exceptions -/
def lm_strs : List (String × Nat × String) := [("LatticeSuite", 66, "the tape is full"), ("LatticeSuite", 235, "a number is out of range"), ("LatticeSuite", 85, "the tape has fewer bytes"), ("LatticeSuite", 238, "the slot has no such byte"), ("LatticeSuite", 242, "RANDOM or CONTEXT does not have the length for this call"), ("LatticeSuite$Kem", 201, "too many numbers were refused"), ("LatticeSuite", 247, "a key or ciphertext is not one of this set"), ("LatticeSuite$Dsa", 329, "too many numbers were refused"), ("LatticeSuite$Dsa", 333, "too many places were refused"), ("LatticeSuite$Dsa", 219, "no try gave a signature")]
/-- words that the kit's lists of words don't carry -/
def lm_wx : List Cond := [.castable "java/lang/IndexOutOfBoundsException" "java/lang/IndexOutOfBoundsException", .castable "java/lang/IllegalArgumentException" "java/lang/IllegalArgumentException", .castable "java/lang/IllegalStateException" "java/lang/IllegalStateException", .castable "java/lang/ArithmeticException" "java/lang/ArithmeticException", .castable "java/lang/UnsupportedOperationException" "java/lang/UnsupportedOperationException",
  .declares ⟨"LatticeSuite$Hash", "start", "(I)V"⟩, .declares ⟨"LatticeSuite$Hash", "empty", "()V"⟩, .declares ⟨"LatticeSuite$Hash", "takeBlock", "()V"⟩, .declares ⟨"LatticeSuite$Hash", "finish", "([BII)V"⟩, .declares ⟨"LatticeSuite$Hash", "closeBlock", "(I)Z"⟩, .declares ⟨"LatticeSuite$Hash", "putTotal", "()V"⟩, .declares ⟨"LatticeSuite$Hash", "keepState", "()V"⟩, .declares ⟨"LatticeSuite$Hash", "bringState", "()V"⟩, .declares ⟨"LatticeSuite$Hash", "add", "([BII)V"⟩,
  .fieldLinkNest "LatticeSuite$Sponge" 21 "LatticeSuite" "HASH_SIZES" "[I" "LatticeSuite", .fieldLinkNest "LatticeSuite$Hashes" 68 "LatticeSuite" "HASH_SIZES" "[I" "LatticeSuite", .fieldLinkNest "LatticeSuite$Signed" 69 "LatticeSuite" "HASH_SIZES" "[I" "LatticeSuite", .fieldLinkNest "LatticeSuite$Slh" 235 "LatticeSuite" "HASH_SIZES" "[I" "LatticeSuite",
  .methodLinkNest "LatticeSuite" 15 ⟨"LatticeSuite$Bytes", "<init>", "()V"⟩ "LatticeSuite", .methodLinkNest "LatticeSuite" 22 ⟨"LatticeSuite$Hashes", "<init>", "()V"⟩ "LatticeSuite",
  .arrayOver (.object "LatticeSuite$Bytes"), .arrayOver (.array .int), .arrayOver (.array .byte), .arrayOver (.array .boolean),
  .declares ⟨"java/lang/RuntimeException", "<init>", "(Ljava/lang/String;)V"⟩, .declares ⟨"java/lang/Exception", "<init>", "(Ljava/lang/String;)V"⟩, .declares ⟨"java/lang/Throwable", "<init>", "(Ljava/lang/String;)V"⟩]
theorem lm_AOA {t : FieldType} {u U : State} (hvm : u.vm.Alike U.vm) (h : (Cond.arrayOver (.array t)).before #[] u = true) : (Cond.arrayOver (.array t)).before #[] U = true := by
  obtain ⟨comp, c, k, h1, h2, h3, h4, h5⟩ := arrayOverA_spec h
  obtain ⟨k', hk', he⟩ := hvm.2.2 _ _ h3
  have hi : (U.vm.classes.findIdx? fun (x : Class) => match x.kind with | .array component _ => component == comp | _ => false) = some c := by
    refine (va_idx_bare U.vm comp).symm.trans ?_
    first | rw [hvm.bare_eq] | rw [← hvm.bare_eq]
    exact (va_idx_bare u.vm comp).trans h2
  have hkind : k'.kind = .array comp (.array t) := by rw [he]; exact h4
  have f1 : U.vm.findClass (FieldType.array t).toString = some comp := by rw [hvm.findClass]; exact h1
  have f2 : U.vm.findClass ("[" ++ (FieldType.array t).toString) = some c := by rw [hvm.findClass]; exact h5
  unfold Cond.before Cond.holds
  simp only [Cond.value]
  rw [f1, Option.bind_some]
  refine (congrArg (fun o : Option Nat => (o.bind (fun c => (U.vm.classes[c]?).map fun (k : Class) => match k.kind with | .array _ ty => decide (ty = FieldType.array t) && decide (U.vm.findClass ("[" ++ (FieldType.array t).toString) = some c) | _ => false) == some true)) hi).trans ?_
  simp [hk', hkind, f2]
theorem lm_wx_ok : ∀ w ∈ lm_wx, ∀ s U : State, s.WarmedH U.vm → va_Nw w s → va_Nw w U := by
  intro w hw s U hW h
  simp only [lm_wx, List.mem_cons, List.not_mem_nil, or_false] at hw
  rcases hw with rfl | rfl | rfl | rfl | rfl | rfl | rfl | rfl | rfl | rfl | rfl | rfl | rfl | rfl | rfl | rfl | rfl | rfl | rfl | rfl | rfl | rfl | rfl | rfl | rfl | rfl | rfl
  all_goals first | exact va_Nw.warmC hW h | exact va_Nw.warmD hW h | exact va_Nw.warmF hW h | exact va_Nw.warmM hW h | exact va_AO.moved hW.alike h | exact lm_AOA hW.alike h
/-- exceptions that are no others -/
def lm_exs : List String := ["java/lang/IndexOutOfBoundsException", "java/lang/IllegalArgumentException", "java/lang/IllegalStateException", "java/lang/ArithmeticException", "java/lang/UnsupportedOperationException"]
theorem lm_LS {C n d : String} {b : Nat} {s U : State} (h : (Cond.laysStatic C n d).before #[] s = true) (hz : va_Zq C n d (fun x => b ≤ x) s s.heap) (hvm : s.vm.Alike U.vm) (hq : ∀ a : Nat, a < s.heap.size → ¬ b ≤ a → U.heap[a]? = s.heap[a]?) : (Cond.laysStatic C n d).before #[] U = true := by
  obtain ⟨c, k, i, f, a, cell, h1, h2, h3, h4, h5, h6, h7, h8, h9⟩ := Cond.laysStatic_spec h
  have hna : ¬ b ≤ a := by
    rcases hz with ⟨cf, kf, fi, f', a', cell', g1, g2, g3, g4, g5, g6, g7, g8⟩ | ⟨t, cf, kf, fi, f', a', cell', g1, g2, g3, g4, g5, g6, g7, g8⟩
    · cases h2.symm.trans g1
      cases h4.symm.trans g4
      exact g8
    · cases h2.symm.trans g1
      cases h4.symm.trans g4
      exact g8
  obtain ⟨k', hi', he⟩ := State.fieldFound?_setVm hvm h2
  have hU : U.fieldFound? C n d = some (c, k', i, f) := hi'
  have hc : U.vm.findClass C = some c := by rw [hvm.findClass]; exact h1
  have hcell : U.heap[a]? = some cell := by rw [hq a (Array.getElem?_eq_some_iff.mp h5).1 hna]; exact h5
  have hs : k'.statics = some a := by rw [he]; exact h4
  have ht : k'.staticTypes[f.slot]? = some f.type := by rw [he]; exact h9
  simp [Cond.before, Cond.holds, Cond.value, hc, hU, hs, hcell, h3, h6, h7, h8, ht]
def lm_Ex (ad : Nat → Nat) (b : Nat) (s : State) : Prop :=
  (∀ (k : Nat) (q : String × String × String), lm_sts[k]? = some q → va_Z q.1 q.2.1 q.2.2 (.ref (ad (lm_B + (k + 1)))) (fun x => b ≤ x) s s.heap) ∧ (∀ q ∈ lm_strs, ∃ a, vk_R q.1 q.2.1 q.2.2 a s) ∧
  (va_Zq "java/lang/Throwable" "UNASSIGNED_STACK" "[Ljava/lang/StackTraceElement;" (fun x => b ≤ x) s s.heap ∧ (Cond.laysStatic "java/lang/Throwable" "UNASSIGNED_STACK" "[Ljava/lang/StackTraceElement;").before #[] s = true) ∧ (va_Zq "java/lang/Throwable" "SUPPRESSED_SENTINEL" "Ljava/util/List;" (fun x => b ≤ x) s s.heap ∧ (Cond.laysStatic "java/lang/Throwable" "SUPPRESSED_SENTINEL" "Ljava/util/List;").before #[] s = true) ∧
  (∀ w ∈ lm_wx, va_Nw w s) ∧ ∀ x ∈ lm_exs, ∀ y ∈ lm_exs, x ≠ y → va_Nc x y s
theorem lm_Ex.moved {ad : Nat → Nat} {b : Nat} {s U : State} (h : lm_Ex ad b s) (hW : s.WarmedH U.vm) (hq : ∀ a : Nat, a < s.heap.size → ¬ b ≤ a → U.heap[a]? = s.heap[a]?) : lm_Ex ad b U :=
  ⟨fun k q hk => ((h.1 k q hk).moved hW.alike).kept hq, fun q hq => (h.2.1 q hq).imp fun a ha => ha.warm hW, ⟨(h.2.2.1.1.moved hW.alike).kept hq, lm_LS h.2.2.1.2 h.2.2.1.1 hW.alike hq⟩, ⟨(h.2.2.2.1.1.moved hW.alike).kept hq, lm_LS h.2.2.2.1.2 h.2.2.2.1.1 hW.alike hq⟩, fun w hw => lm_wx_ok w hw s U hW (h.2.2.2.2.1 w hw), fun x hx y hy hn => (h.2.2.2.2.2 x hx y hy hn).moved hW.alike⟩
/-- an array that the heap holds: its type, length, contents -/
def lm_arr (s : State) (H : Heap) (a : Nat) (ty : FieldType) (n : Nat) (f : Nat → Value) : Prop := ∃ cell : Cell, H[a]? = some cell ∧ s.isArrayOf cell ty ∧ cell.vm ≠ .unknown ∧ (∀ k, cell.vm ≠ .statics k) ∧ (n ≤ cell.slots.size ∧ cell.slots.size.toInt32 = Int32.ofNat n) ∧ ∀ j, j < n → cell.slots[j]? = some (f j)
/-- a static cell -/
def lm_sat (s : State) (H : Heap) (a : Nat) (c : lm_C) : Prop := match c with
  | .inl (u, xs) => ∃ ty, ((u = 0 ∧ ty = .int) ∨ (u = 1 ∧ ty = .byte)) ∧ lm_arr s H a ty xs.length (fun j => .int (xs.getD j 0))
  | .inr (.inl xs) => lm_arr s H a .long xs.length (fun j => .long (xs.getD j 0))
  | _ => False
theorem lm_arr.moved {s U : State} {H H1 : Heap} {a : Nat} {ty : FieldType} {n : Nat} {f : Nat → Value} (h : lm_arr s H a ty n f) (hvm : s.vm.Alike U.vm) (hq : H1[a]? = H[a]?) : lm_arr U H1 a ty n f := by
  obtain ⟨cell, h1, h2, h3⟩ := h
  exact ⟨cell, hq.trans h1, State.isArrayOf_alike hvm h2, h3⟩
theorem lm_sat.moved {s U : State} {H H1 : Heap} {a : Nat} {c : lm_C} (h : lm_sat s H a c) (hvm : s.vm.Alike U.vm) (hq : H1[a]? = H[a]?) : lm_sat U H1 a c := by
  unfold lm_sat at *
  split at h
  · obtain ⟨ty, h1, h2⟩ := h
    exact ⟨ty, h1, h2.moved hvm hq⟩
  · exact h.moved hvm hq
  · exact h
/-- what holds all along a method's walk that began at s: the addresses, the static cells, the tables -/
def lm_G (D : va_G) (cl : List vw_C) (tc : Nat → ClassId) (ad : Nat → Nat) (sc : lm_H) (b : Nat) (s : State) : Prop :=
  (∀ q, q < lm_B → ad q = b + q) ∧ (∀ k c, sc[k]? = some c → ad (lm_B + k) < b ∧ lm_sat s s.heap (ad (lm_B + k)) c) ∧ b ≤ s.heap.size ∧ va_K D cl (lm_tys tc) s ∧ lm_okH sc ∧ lm_Ex ad b s
/-- the heap H holds the lite heap h; since s nothing below b has changed -/
def lm_Q (D : va_G) (cl : List vw_C) (tc : Nat → ClassId) (ad : Nat → Nat) (b : Nat) (s : State) (h : lm_H) (H : Heap) (locs : List Loc) : Prop :=
  va_P D cl (lm_ws b tc ad h) H ∧ H.size = b + h.length ∧ va_S (fun q => b ≤ q) s.heap H locs ∧ h.length ≤ lm_B ∧ lm_okH h
theorem lm_ws_get {b : Nat} {tc : Nat → ClassId} {ad : Nat → Nat} {h : lm_H} {q : Nat} {c : lm_C} (hc : h[q]? = some c) : (lm_ws b tc ad h)[q]? = some (b + q, lm_e tc ad c) := by
  unfold lm_ws
  rw [List.getElem?_mapIdx, hc]
  rfl
theorem lm_ws_inv {b : Nat} {tc : Nat → ClassId} {ad : Nat → Nat} {h : lm_H} {q : Nat} {w : Nat × va_E} (hc : (lm_ws b tc ad h)[q]? = some w) : ∃ c, h[q]? = some c ∧ w = (b + q, lm_e tc ad c) := by
  unfold lm_ws at hc
  rw [List.getElem?_mapIdx] at hc
  cases hq : h[q]? with
  | none => rw [hq] at hc; cases hc
  | some c => rw [hq] at hc; exact ⟨c, rfl, (Option.some.inj hc).symm⟩
theorem lm_ws_set {b : Nat} {tc : Nat → ClassId} {ad : Nat → Nat} {h : lm_H} {q : Nat} {c : lm_C} : (lm_ws b tc ad h).set q (b + q, lm_e tc ad c) = lm_ws b tc ad (h.set q c) := by
  apply List.ext_getElem?
  intro k
  unfold lm_ws
  rw [List.getElem?_set, List.getElem?_mapIdx, List.getElem?_mapIdx, List.getElem?_set, List.length_mapIdx]
  by_cases e : q = k
  · subst e
    by_cases l : q < h.length
    · simp [l]
    · simp [l]
  · simp [e]
theorem lm_ws_app {b : Nat} {tc : Nat → ClassId} {ad : Nat → Nat} {h : lm_H} {c : lm_C} : lm_ws b tc ad (h ++ [c]) = lm_ws b tc ad h ++ [(b + h.length, lm_e tc ad c)] := by
  unfold lm_ws
  rw [List.mapIdx_append]
  simp
theorem lm_ws_D {b : Nat} {tc : Nat → ClassId} {ad : Nat → Nat} {h : lm_H} : va_D (fun q => b ≤ q) (lm_ws b tc ad h) := by
  refine ⟨fun i j x y hi hj e => ?_, fun k x hx => ?_⟩
  · obtain ⟨c, -, rfl⟩ := lm_ws_inv hi
    obtain ⟨d, -, rfl⟩ := lm_ws_inv hj
    have e : b + i = b + j := e
    omega
  · obtain ⟨c, -, rfl⟩ := lm_ws_inv hx
    exact Nat.le_add_right b k
section LMS
variable {D : va_G} {cl : List vw_C} {tc : Nat → ClassId} {ad : Nat → Nat} {sc : lm_H} {b : Nat} {s : State} {h : lm_H} {H : Heap} {locs : List Loc} {q : Nat} {c : lm_C}
theorem lm_at (hG : lm_G D cl tc ad sc b s) (hQ : lm_Q D cl tc ad b s h H locs) (hq : q < lm_B) (hc : h[q]? = some c) : va_at D cl (ad q, lm_e tc ad c) H := by
  rw [hG.1 q hq]
  exact hQ.1 q _ (lm_ws_get hc)
theorem lm_at1 (hG : lm_G D cl tc ad sc b s) (hQ : lm_Q D cl tc ad b s h H locs) (hq : q < lm_B) (hc : h[q]? = some c) : va_P D cl [(ad q, lm_e tc ad c)] H := by
  intro k w hw
  have hk : k < 1 := (List.getElem?_eq_some_iff.mp hw).1
  rw [show k = 0 by omega] at hw
  cases hw
  exact lm_at hG hQ hq hc
theorem lm_arrV_arr {ty : FieldType} {cA : ClassId} {n a : Nat} {f : Nat → Value} (hA : ArrOfT s cA ty) (hc : H[a]? = some (arrV cA n f)) : lm_arr s H a ty n f :=
  ⟨_, hc, hA n f, (fun z => by cases z), (fun _ z => by cases z), ⟨by rw [arrV_size]; exact Nat.le_refl _, by rw [arrV_size]⟩, fun _ hj => arrV_read _ _ hj⟩
theorem lm_static (hG : lm_G D cl tc ad sc b s) (hQ : lm_Q D cl tc ad b s h H locs) (hq : ¬ q < lm_B) (hc : sc[q - lm_B]? = some c) : lm_sat s H (ad q) c := by
  have e : lm_B + (q - lm_B) = q := by omega
  have h1 := hG.2.1 _ _ hc
  rw [e] at h1
  exact h1.2.moved (Vm.Alike.refl _) (hQ.2.2.1.2.1 _ (Nat.lt_of_lt_of_le h1.1 hG.2.2.1) (Nat.not_le.mpr h1.1))
theorem lm_rdI (hG : lm_G D cl tc ad sc b s) (hQ : lm_Q D cl tc ad b s h H locs) {u : Nat} {xs : List Int32} {ty : FieldType} (hty : (u = 0 ∧ ty = .int) ∨ (u = 1 ∧ ty = .byte) ∨ (u = 2 ∧ ty = .boolean)) (hc : lm_cell sc h q = some (.inl (u, xs))) : lm_arr s H (ad q) ty xs.length (fun j => .int (xs.getD j 0)) := by
  unfold lm_cell at hc
  by_cases hq : q < lm_B
  · rw [if_pos hq] at hc
    have h0 : H[ad q]? = some (arrV (tc u) xs.length (fun j => .int (xs.getD j 0))) := lm_at hG hQ hq hc
    rcases hty with ⟨rfl, rfl⟩ | ⟨rfl, rfl⟩ | ⟨rfl, rfl⟩
    · exact lm_arrV_arr (hG.2.2.2.1.2 0 _ rfl).1 h0
    · exact lm_arrV_arr (hG.2.2.2.1.2 1 _ rfl).1 h0
    · exact lm_arrV_arr (hG.2.2.2.1.2 2 _ rfl).1 h0
  · rw [if_neg hq] at hc
    obtain ⟨ty', h1, h2⟩ := lm_static hG hQ hq hc
    rcases hty with ⟨rfl, rfl⟩ | ⟨rfl, rfl⟩ | ⟨rfl, rfl⟩
    · rcases h1 with ⟨-, rfl⟩ | ⟨h1, -⟩
      · exact h2
      · cases h1
    · rcases h1 with ⟨h1, -⟩ | ⟨-, rfl⟩
      · cases h1
      · exact h2
    · rcases h1 with ⟨h1, -⟩ | ⟨h1, -⟩ <;> cases h1
theorem lm_rdL (hG : lm_G D cl tc ad sc b s) (hQ : lm_Q D cl tc ad b s h H locs) {xs : List Int64} (hc : lm_cell sc h q = some (.inr (.inl xs))) : lm_arr s H (ad q) .long xs.length (fun j => .long (xs.getD j 0)) := by
  unfold lm_cell at hc
  by_cases hq : q < lm_B
  · rw [if_pos hq] at hc
    have h0 : H[ad q]? = some (arrV (tc 7) xs.length (fun j => .long (xs.getD j 0))) := lm_at hG hQ hq hc
    exact lm_arrV_arr (hG.2.2.2.1.2 7 _ rfl).1 h0
  · rw [if_neg hq] at hc
    exact lm_static hG hQ hq hc
theorem lm_rdR (hG : lm_G D cl tc ad sc b s) (hQ : lm_Q D cl tc ad b s h H locs) {u : Nat} {xs : List (Option Nat)} (hu : 3 ≤ u ∧ u ≤ 6) (hc : lm_cell sc h q = some (.inr (.inr (.inl (u, xs))))) : ∃ ty, ty.isReference = true ∧ lm_arr s H (ad q) ty xs.length (fun j => va_rf ((xs.getD j none).map ad)) := by
  unfold lm_cell at hc
  by_cases hq : q < lm_B
  · rw [if_pos hq] at hc
    have h0 : H[ad q]? = some (arrV (tc u) xs.length (fun j => va_rf ((xs.getD j none).map ad))) := lm_at hG hQ hq hc
    have h3 : u = 3 ∨ u = 4 ∨ u = 5 ∨ u = 6 := by omega
    rcases h3 with rfl | rfl | rfl | rfl
    · exact ⟨_, rfl, lm_arrV_arr (hG.2.2.2.1.2 3 _ rfl).1 h0⟩
    · exact ⟨_, rfl, lm_arrV_arr (hG.2.2.2.1.2 4 _ rfl).1 h0⟩
    · exact ⟨_, rfl, lm_arrV_arr (hG.2.2.2.1.2 5 _ rfl).1 h0⟩
    · exact ⟨_, rfl, lm_arrV_arr (hG.2.2.2.1.2 6 _ rfl).1 h0⟩
  · rw [if_neg hq] at hc
    exact (lm_static hG hQ hq hc).elim
theorem lm_cell_lt (hq : q < lm_B) : lm_cell sc h q = h[q]? := if_pos hq
theorem lm_okH.set (hh : lm_okH h) (hc : lm_okC c) : lm_okH (h.set q c) := by
  intro k d hd
  rw [List.getElem?_set] at hd
  by_cases e : q = k
  · rw [if_pos e] at hd
    by_cases l : q < h.length
    · rw [if_pos l] at hd
      cases hd
      exact hc
    · rw [if_neg l] at hd
      cases hd
  · rw [if_neg e] at hd
    exact hh k d hd
theorem lm_okH.app (hh : lm_okH h) {l : lm_H} (hl : lm_okH l) : lm_okH (h ++ l) := by
  intro k d hd
  rw [List.getElem?_append] at hd
  split at hd
  · exact hh k d hd
  · exact hl _ d hd
theorem lm_okH.one (hc : lm_okC c) : lm_okH [c] := by
  intro k d hd
  have hz : k < 1 := (List.getElem?_eq_some_iff.mp hd).1
  rw [show k = 0 by omega] at hd
  cases hd
  exact hc
/-- behind a write to the cell at q -/
theorem lm_Q_wr {H1 : Heap} {L : List Loc} {c' : lm_C} (hQ : lm_Q D cl tc ad b s h H locs) (hc : h[q]? = some c) (hat : va_at D cl (b + q, lm_e tc ad c') H1) (z : H1.size = H.size) (oq : ∀ x, x ≠ b + q → H1[x]? = H[x]?) (hok : lm_okC c') (hL : ∀ x ∈ L, x.base = b + q) : lm_Q D cl tc ad b s (h.set q c') H1 (locs ++ L) := by
  refine ⟨?_, ?_, ⟨by rw [z]; exact hQ.2.2.1.1, fun x h1 h2 => ?_, fun x hx => ?_⟩, ?_, hQ.2.2.2.2.set hok⟩
  · rw [← lm_ws_set]
    exact hQ.1.set lm_ws_D (lm_ws_get hc) hat oq
  · rw [z, List.length_set]
    exact hQ.2.1
  · rw [oq x (fun e => h2 (by rw [e]; exact Nat.le_add_right b q))]
    exact hQ.2.2.1.2.1 x h1 h2
  · rcases List.mem_append.mp hx with h9 | h9
    · exact hQ.2.2.1.2.2 x h9
    · show b ≤ x.base
      rw [hL x h9]
      exact Nat.le_add_right b q
  · rw [List.length_set]
    exact hQ.2.2.2.1
/-- behind the making of a cell -/
theorem lm_Q_push {H1 : Heap} {c' : lm_C} (hQ : lm_Q D cl tc ad b s h H locs) (hat : va_at D cl (H.size, lm_e tc ad c') H1) (hz : H1.size = H.size + 1) (ho : ∀ q, q < H.size → H1[q]? = H[q]?) (hl : h.length + 1 < lm_B) (hok : lm_okC c') : lm_Q D cl tc ad b s (h ++ [c']) H1 locs := by
  refine ⟨?_, ?_, ⟨Nat.le_trans hQ.2.2.1.1 (by omega), fun x h1 h2 => (ho x (Nat.lt_of_lt_of_le h1 hQ.2.2.1.1)).trans (hQ.2.2.1.2.1 x h1 h2), hQ.2.2.1.2.2⟩, ?_, hQ.2.2.2.2.app (lm_okH.one hok)⟩
  · rw [lm_ws_app]
    have hk : va_P D cl (lm_ws b tc ad h) H1 := hQ.1.kept (fun k x hx => ho x.1 ((hQ.1 k x hx).lt))
    refine hk.app (fun k x hx => ?_)
    have hz : k < 1 := (List.getElem?_eq_some_iff.mp hx).1
    rw [show k = 0 by omega] at hx
    cases hx
    rw [← hQ.2.1]
    exact hat
  · rw [hz, hQ.2.1, List.length_append]
    rfl
  · rw [List.length_append]
    exact Nat.le_of_lt hl
end LMS
/-- at pc, with the locals lv and the stack st, the lite heap and the room left: the machine comes to Q -/
def lm_Sim (p : Program) (l : Launch) (e : Env) (R : Room) (s : State) (m : MethodId) (args : Array Value) (below : List Frame) (meth : Method) (c : Code) (D : va_G) (cl : List vw_C) (tc : Nat → ClassId) (ad : Nat → Nat) (b nL : Nat) (Q : State → Prop) (pc : Nat) (lv : lm_L) (st : List Value) (σ : lm_S) : Prop :=
  ∀ (ls : Array Slot) (H : Heap) (locs : List Loc) (cells slots : Nat), lv_has ls nL (lv.map fun q => (q.1, lm_v ad q.2)) → lm_Q D cl tc ad b s σ.1 H locs → cells + σ.2.1 ≤ R.cells → slots + σ.2.2 ≤ R.slots →
    W p l e R s m args below meth c H locs cells slots Q (F0 m pc ls (st.map (lm_v ad)))
theorem lm_v_cat (ad : Nat → Nat) (v : Value) : (lm_v ad v).category = v.category := by cases v <;> rfl
theorem lm_lk_mem {lv : lm_L} {i : Nat} {v : Value} (h : lm_lk lv i = some v) : (i, v) ∈ lv := by
  induction lv with
  | nil => cases h
  | cons q t ih =>
    have h' : cond (Nat.beq q.1 i) (some q.2) (lm_lk t i) = some v := h
    cases hb : Nat.beq q.1 i with
    | true =>
      rw [hb] at h'
      have e1 : q.1 = i := Nat.eq_of_beq_eq_true hb
      have e2 : q.2 = v := Option.some.inj h'
      rw [← e1, ← e2]
      exact List.mem_cons_self
    | false =>
      rw [hb] at h'
      exact List.mem_cons_of_mem _ (ih h')
theorem lm_lk_has {ls : Array Slot} {nL : Nat} {lv : lm_L} {ad : Nat → Nat} {i : Nat} {v : Value} (hl : lv_has ls nL (lv.map fun q => (q.1, lm_v ad q.2))) (h : lm_lk lv i = some v) : ls[i]? = some (.val (lm_v ad v)) :=
  hl.2.2 (i, lm_v ad v) (List.mem_map.mpr ⟨(i, v), lm_lk_mem h, rfl⟩)
theorem lm_keep_has {ls : Array Slot} {nL : Nat} {lv : lm_L} {ad : Nat → Nat} (ks : List Nat) (hl : lv_has ls nL (lv.map fun q => (q.1, lm_v ad q.2))) : lv_has ls nL ((lm_keep ks lv).map fun q => (q.1, lm_v ad q.2)) := by
  refine ⟨hl.1, hl.2.1, fun q hq => ?_⟩
  obtain ⟨q0, h0, rfl⟩ := List.mem_map.mp hq
  obtain ⟨i, -, hi⟩ := List.mem_filterMap.mp h0
  cases hv : lm_lk lv i with
  | none => rw [hv] at hi; cases hi
  | some v =>
    rw [hv] at hi
    cases hi
    exact lm_lk_has hl hv
theorem lm_s1_map (ad : Nat → Nat) (lv : lm_L) (i : Nat) (v : Value) : (i, lm_v ad v) :: (lv.map fun q => (q.1, lm_v ad q.2)).filter (fun q => !(q.1 == i) && !(q.1 + 1 == i && q.2.category == 2)) = (lm_s1 lv i v).map fun q => (q.1, lm_v ad q.2) := by
  unfold lm_s1
  rw [List.map_cons, List.filter_map]
  congr 3
  funext q
  show (!(q.1 == i) && !(q.1 + 1 == i && (lm_v ad q.2).category == 2)) = _
  rw [lm_v_cat]
theorem lm_s2_map (ad : Nat → Nat) (lv : lm_L) (i : Nat) (v : Value) : (i, lm_v ad v) :: (lv.map fun q => (q.1, lm_v ad q.2)).filter (fun q => !(q.1 == i) && (!(q.1 == i + 1) && !(q.1 + 1 == i && q.2.category == 2))) = (lm_s2 lv i v).map fun q => (q.1, lm_v ad q.2) := by
  unfold lm_s2
  rw [List.map_cons, List.filter_map]
  congr 3
  funext q
  show (!(q.1 == i) && (!(q.1 == i + 1) && !(q.1 + 1 == i && (lm_v ad q.2).category == 2))) = _
  rw [lm_v_cat]
/-! what a helper's answer says of the stack -/
theorem lm_i2_some {st : List Value} {f : Int32 → Int32 → List Value → lm_M lm_R} {σ : lm_S} {r : Except Nat lm_R × lm_S} (h : lm_i2 st f σ = some r) : ∃ x y t, st = .int y :: .int x :: t ∧ f x y t σ = some r := by
  unfold lm_i2 at h
  split at h
  · exact ⟨_, _, _, rfl, h⟩
  · cases h
theorem lm_i1_some {st : List Value} {f : Int32 → List Value → lm_M lm_R} {σ : lm_S} {r : Except Nat lm_R × lm_S} (h : lm_i1 st f σ = some r) : ∃ x t, st = .int x :: t ∧ f x t σ = some r := by
  unfold lm_i1 at h
  split at h
  · exact ⟨_, _, rfl, h⟩
  · cases h
theorem lm_l2_some {st : List Value} {f : Int64 → Int64 → List Value → lm_M lm_R} {σ : lm_S} {r : Except Nat lm_R × lm_S} (h : lm_l2 st f σ = some r) : ∃ x y t, st = .long y :: .long x :: t ∧ f x y t σ = some r := by
  unfold lm_l2 at h
  split at h
  · exact ⟨_, _, _, rfl, h⟩
  · cases h
theorem lm_l1_some {st : List Value} {f : Int64 → List Value → lm_M lm_R} {σ : lm_S} {r : Except Nat lm_R × lm_S} (h : lm_l1 st f σ = some r) : ∃ x t, st = .long x :: t ∧ f x t σ = some r := by
  unfold lm_l1 at h
  split at h
  · exact ⟨_, _, rfl, h⟩
  · cases h
theorem lm_li_some {st : List Value} {f : Int64 → Int32 → List Value → lm_M lm_R} {σ : lm_S} {r : Except Nat lm_R × lm_S} (h : lm_li st f σ = some r) : ∃ x y t, st = .int y :: .long x :: t ∧ f x y t σ = some r := by
  unfold lm_li at h
  split at h
  · exact ⟨_, _, _, rfl, h⟩
  · cases h
theorem lm_r1_some {st : List Value} {f : Nat → List Value → lm_M lm_R} {σ : lm_S} {r : Except Nat lm_R × lm_S} (h : lm_r1 st f σ = some r) : ∃ x t, st = .ref x :: t ∧ f x t σ = some r := by
  unfold lm_r1 at h
  split at h
  · exact ⟨_, _, rfl, h⟩
  · cases h
theorem lm_ri_some {st : List Value} {f : Nat → Int32 → List Value → lm_M lm_R} {σ : lm_S} {r : Except Nat lm_R × lm_S} (h : lm_ri st f σ = some r) : ∃ q i t, st = .int i :: .ref q :: t ∧ f q i t σ = some r := by
  unfold lm_ri at h
  split at h
  · exact ⟨_, _, _, rfl, h⟩
  · cases h
theorem lm_v1_some {st : List Value} {f : Value → List Value → lm_M lm_R} {σ : lm_S} {r : Except Nat lm_R × lm_S} (h : lm_v1 st f σ = some r) : ∃ x t, st = x :: t ∧ f x t σ = some r := by
  unfold lm_v1 at h
  split at h
  · exact ⟨_, _, rfl, h⟩
  · cases h
/-- a primitive that doesn't throw: what it gave -/
theorem lm_bind_ok {α : Type} {x : lm_M α} {f : α → lm_M lm_R} {σ : lm_S} {r : Except Nat lm_R × lm_S} (h : lm_bind x f σ = some r) (hn : ∀ e t, x σ ≠ some (.error e, t)) : ∃ a t, x σ = some (.ok a, t) ∧ f a t = some r := by
  unfold lm_bind at h
  split at h
  · cases h
  · rename_i e t he
    exact absurd he (hn e t)
  · rename_i a t he
    exact ⟨a, t, he, h⟩
