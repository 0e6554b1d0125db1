/-! ===== WITHOUT FUEL: the limit of the runs ===== -/
def lm_cv {α : Type} (X : Nat → Nat → lm_M α) (Y : lm_M α) : Prop := ∀ σ r, Y σ = some r → ∃ n0, ∀ n m, n0 ≤ n → n0 ≤ m → X n m σ = some r
theorem lm_cv.const {α : Type} (Y : lm_M α) : lm_cv (fun _ _ => Y) Y := fun _ _ h => ⟨0, fun _ _ _ _ => h⟩
theorem lm_cv.bind {α β : Type} {X : Nat → Nat → lm_M α} {Y : lm_M α} {F : Nat → Nat → α → lm_M β} {G : α → lm_M β} (h : lm_cv X Y) (hf : ∀ a, lm_cv (fun n m => F n m a) (G a)) : lm_cv (fun n m => lm_bind (X n m) (F n m)) (lm_bind Y G) := by
  intro σ r h1
  rcases lm_bind_some h1 with ⟨e, t, h2, h3⟩ | ⟨a, t, h2, h3⟩
  · obtain ⟨n0, hn⟩ := h _ _ h2
    refine ⟨n0, fun n m a1 a2 => ?_⟩
    show lm_bind (X n m) (F n m) σ = some r
    unfold lm_bind
    rw [hn n m a1 a2, h3]
  · obtain ⟨n0, hn⟩ := h _ _ h2
    obtain ⟨n1, hm⟩ := hf a _ _ h3
    refine ⟨n0 + n1, fun n m a1 a2 => ?_⟩
    show lm_bind (X n m) (F n m) σ = some r
    unfold lm_bind
    rw [hn n m (by omega) (by omega)]
    exact hm n m (by omega) (by omega)
theorem lm_cv.bindC {α β : Type} {Y : lm_M α} {F : Nat → Nat → α → lm_M β} {G : α → lm_M β} (hf : ∀ a, lm_cv (fun n m => F n m a) (G a)) : lm_cv (fun n m => lm_bind Y (F n m)) (lm_bind Y G) := lm_cv.bind (lm_cv.const Y) hf
theorem lm_cv.try {α : Type} {X : Nat → Nat → lm_M α} {Y : lm_M α} {hs : List (Nat × Nat)} {F : Nat → Nat → α → lm_M lm_R} {G : α → lm_M lm_R} {F' : Nat → Nat → Nat → Nat → lm_M lm_R} {G' : Nat → Nat → lm_M lm_R} (h : lm_cv X Y) (hf : ∀ a, lm_cv (fun n m => F n m a) (G a)) (hg : ∀ a b, lm_cv (fun n m => F' n m a b) (G' a b)) : lm_cv (fun n m => lm_try (X n m) hs (F n m) (F' n m)) (lm_try Y hs G G') := by
  intro σ r h1
  rcases lm_try_some h1 with ⟨q, t, hp, h2, h3, h4⟩ | ⟨a, t, h2, h3⟩
  · obtain ⟨n0, hn⟩ := h _ _ h2
    obtain ⟨n1, hm⟩ := hg hp q _ _ h4
    refine ⟨n0 + n1, fun n m a1 a2 => ?_⟩
    show lm_try (X n m) hs (F n m) (F' n m) σ = some r
    unfold lm_try
    rw [hn n m (by omega) (by omega)]
    show (match lm_find hs (lm_cls t.1 q) with
      | some pc => F' n m pc q t
      | none => none) = some r
    rw [h3]
    exact hm n m (by omega) (by omega)
  · obtain ⟨n0, hn⟩ := h _ _ h2
    obtain ⟨n1, hm⟩ := hf a _ _ h3
    refine ⟨n0 + n1, fun n m a1 a2 => ?_⟩
    show lm_try (X n m) hs (F n m) (F' n m) σ = some r
    unfold lm_try
    rw [hn n m (by omega) (by omega)]
    exact hm n m (by omega) (by omega)
theorem lm_cv.cond {α : Type} {b : Bool} {X X' : Nat → Nat → lm_M α} {Y Y' : lm_M α} (h : lm_cv X Y) (h' : lm_cv X' Y') : lm_cv (fun n m => cond b (X n m) (X' n m)) (cond b Y Y') := by cases b <;> assumption
theorem lm_cv.ite {α : Type} {p : Prop} {q : Decidable p} {X X' : Nat → Nat → lm_M α} {Y Y' : lm_M α} (h : lm_cv X Y) (h' : lm_cv X' Y') : lm_cv (fun n m => @ite _ p q (X n m) (X' n m)) (@ite _ p q Y Y') := by
  by_cases hp : p
  · simp only [hp, ↓reduceIte]
    exact h
  · simp only [hp, ↓reduceIte]
    exact h'
theorem lm_cv.asI {X : Nat → Nat → lm_M lm_R} {Y : lm_M lm_R} (h : lm_cv X Y) : lm_cv (fun n m => lm_asI (X n m)) (lm_asI Y) := lm_cv.bind h (fun _ => lm_cv.const _)
theorem lm_cv.asL {X : Nat → Nat → lm_M lm_R} {Y : lm_M lm_R} (h : lm_cv X Y) : lm_cv (fun n m => lm_asL (X n m)) (lm_asL Y) := lm_cv.bind h (fun _ => lm_cv.const _)
theorem lm_cv.asR {X : Nat → Nat → lm_M lm_R} {Y : lm_M lm_R} (h : lm_cv X Y) : lm_cv (fun n m => lm_asR (X n m)) (lm_asR Y) := lm_cv.bind h (fun _ => lm_cv.const _)
theorem lm_cv.asV {X : Nat → Nat → lm_M lm_R} {Y : lm_M lm_R} (h : lm_cv X Y) : lm_cv (fun n m => lm_asV (X n m)) (lm_asV Y) := lm_cv.bind h (fun _ => lm_cv.const _)
theorem lm_cv.inv {X : Nat → Nat → lm_M lm_R} {Y : lm_M lm_R} {hs : List (Nat × Nat)} {rk : Nat} {F : Nat → Nat → List Value → lm_M lm_R} {G : List Value → lm_M lm_R} {F' : Nat → Nat → Nat → Nat → lm_M lm_R} {G' : Nat → Nat → lm_M lm_R} (h : lm_cv X Y) (hf : ∀ a, lm_cv (fun n m => F n m a) (G a)) (hg : ∀ a b, lm_cv (fun n m => F' n m a b) (G' a b)) : lm_cv (fun n m => lm_inv (X n m) hs rk (F n m) (F' n m)) (lm_inv Y hs rk G G') := by
  cases hs with
  | nil =>
    match rk with
    | 0 => exact lm_cv.bind h.asV (fun _ => hf _)
    | 1 => exact lm_cv.bind h.asI (fun _ => hf _)
    | 2 => exact lm_cv.bind h.asL (fun _ => hf _)
    | n + 3 => exact lm_cv.bind h.asR (fun _ => hf _)
  | cons hd tl =>
    match rk with
    | 0 => exact lm_cv.try h.asV (fun _ => hf _) hg
    | 1 => exact lm_cv.try h.asI (fun _ => hf _) hg
    | 2 => exact lm_cv.try h.asL (fun _ => hf _) hg
    | n + 3 => exact lm_cv.try h.asR (fun _ => hf _) hg
theorem lm_cv.i2 {st : List Value} {F : Nat → Nat → Int32 → Int32 → List Value → lm_M lm_R} {G : Int32 → Int32 → List Value → lm_M lm_R} (h : ∀ x y st, lm_cv (fun n m => F n m x y st) (G x y st)) : lm_cv (fun n m => lm_i2 st (F n m)) (lm_i2 st G) := by
  unfold lm_i2
  split
  · exact h _ _ _
  · exact lm_cv.const _
theorem lm_cv.i1 {st : List Value} {F : Nat → Nat → Int32 → List Value → lm_M lm_R} {G : Int32 → List Value → lm_M lm_R} (h : ∀ x st, lm_cv (fun n m => F n m x st) (G x st)) : lm_cv (fun n m => lm_i1 st (F n m)) (lm_i1 st G) := by
  unfold lm_i1
  split
  · exact h _ _
  · exact lm_cv.const _
theorem lm_cv.l2 {st : List Value} {F : Nat → Nat → Int64 → Int64 → List Value → lm_M lm_R} {G : Int64 → Int64 → List Value → lm_M lm_R} (h : ∀ x y st, lm_cv (fun n m => F n m x y st) (G x y st)) : lm_cv (fun n m => lm_l2 st (F n m)) (lm_l2 st G) := by
  unfold lm_l2
  split
  · exact h _ _ _
  · exact lm_cv.const _
theorem lm_cv.l1 {st : List Value} {F : Nat → Nat → Int64 → List Value → lm_M lm_R} {G : Int64 → List Value → lm_M lm_R} (h : ∀ x st, lm_cv (fun n m => F n m x st) (G x st)) : lm_cv (fun n m => lm_l1 st (F n m)) (lm_l1 st G) := by
  unfold lm_l1
  split
  · exact h _ _
  · exact lm_cv.const _
theorem lm_cv.li {st : List Value} {F : Nat → Nat → Int64 → Int32 → List Value → lm_M lm_R} {G : Int64 → Int32 → List Value → lm_M lm_R} (h : ∀ x y st, lm_cv (fun n m => F n m x y st) (G x y st)) : lm_cv (fun n m => lm_li st (F n m)) (lm_li st G) := by
  unfold lm_li
  split
  · exact h _ _ _
  · exact lm_cv.const _
theorem lm_cv.r1 {st : List Value} {F : Nat → Nat → Nat → List Value → lm_M lm_R} {G : Nat → List Value → lm_M lm_R} (h : ∀ x st, lm_cv (fun n m => F n m x st) (G x st)) : lm_cv (fun n m => lm_r1 st (F n m)) (lm_r1 st G) := by
  unfold lm_r1
  split
  · exact h _ _
  · exact lm_cv.const _
theorem lm_cv.ri {st : List Value} {F : Nat → Nat → Nat → Int32 → List Value → lm_M lm_R} {G : Nat → Int32 → List Value → lm_M lm_R} (h : ∀ x y st, lm_cv (fun n m => F n m x y st) (G x y st)) : lm_cv (fun n m => lm_ri st (F n m)) (lm_ri st G) := by
  unfold lm_ri
  split
  · exact h _ _ _
  · exact lm_cv.const _
theorem lm_cv.v1 {st : List Value} {F : Nat → Nat → Value → List Value → lm_M lm_R} {G : Value → List Value → lm_M lm_R} (h : ∀ x st, lm_cv (fun n m => F n m x st) (G x st)) : lm_cv (fun n m => lm_v1 st (F n m)) (lm_v1 st G) := by
  unfold lm_v1
  split
  · exact h _ _
  · exact lm_cv.const _
theorem lm_cv.opt {α : Type} {o : Option α} {F : Nat → Nat → α → lm_M lm_R} {G : α → lm_M lm_R} (h : ∀ x, lm_cv (fun n m => F n m x) (G x)) : lm_cv (fun n m => lm_opt o (F n m)) (lm_opt o G) := by
  unfold lm_opt
  split
  · exact h _
  · exact lm_cv.const _
theorem lm_cv.ldI {o : Option Value} {F : Nat → Nat → Int32 → lm_M lm_R} {G : Int32 → lm_M lm_R} (h : ∀ x, lm_cv (fun n m => F n m x) (G x)) : lm_cv (fun n m => lm_ldI o (F n m)) (lm_ldI o G) := by
  unfold lm_ldI
  split
  · exact h _
  · exact lm_cv.const _
theorem lm_cv.ldL {o : Option Value} {F : Nat → Nat → Int64 → lm_M lm_R} {G : Int64 → lm_M lm_R} (h : ∀ x, lm_cv (fun n m => F n m x) (G x)) : lm_cv (fun n m => lm_ldL o (F n m)) (lm_ldL o G) := by
  unfold lm_ldL
  split
  · exact h _
  · exact lm_cv.const _
theorem lm_cv.ldR {o : Option Value} {F : Nat → Nat → Nat → lm_M lm_R} {G : Nat → lm_M lm_R} (h : ∀ x, lm_cv (fun n m => F n m x) (G x)) : lm_cv (fun n m => lm_ldR o (F n m)) (lm_ldR o G) := by
  unfold lm_ldR
  split
  · exact h _
  · exact lm_cv.const _
theorem lm_cv.k4 {k : Nat} {A B C D : Nat → Nat → lm_M lm_R} {A' B' C' D' : lm_M lm_R} (ha : lm_cv A A') (hb : lm_cv B B') (hc : lm_cv C C') (hd : lm_cv D D') : lm_cv (fun n m => lm_k4 k (A n m) (B n m) (C n m) (D n m)) (lm_k4 k A' B' C' D') := by
  unfold lm_k4
  split <;> assumption
section LMV
variable {sc : lm_H} {ρn : Nat → Nat → Nat → List Value → lm_M lm_R} {ρ : Nat → List Value → lm_M lm_R} {vts : List (Nat × Nat × List (Nat × Nat))} {dfs : List (List Value)} {hs : List (Nat × Nat)}
set_option maxHeartbeats 4000000 in
theorem lm_ins_cv (hρ : ∀ y as, lm_cv (fun n m => ρn n m y as) (ρ y as)) {next : Nat → Nat → lm_L → List Value → lm_M lm_R} {next' : lm_L → List Value → lm_M lm_R} {jump : Nat → Nat → Nat → lm_L → List Value → lm_M lm_R} {jump' : Nat → lm_L → List Value → lm_M lm_R} (hn : ∀ lv st, lm_cv (fun n m => next n m lv st) (next' lv st)) (hj : ∀ t lv st, lm_cv (fun n m => jump n m t lv st) (jump' t lv st)) (ins : Instr) (pc : Nat) (lv : lm_L) (st : List Value) :
    lm_cv (fun n m => lm_ins sc (ρn n m) vts dfs hs ins pc lv st (next n m) (jump n m)) (lm_ins sc ρ vts dfs hs ins pc lv st next' jump') := by
  unfold lm_ins
  cases ins
  case if_acmp co off =>
    cases co
    case eq => exact lm_cv.r1 fun _ _ => lm_cv.r1 fun _ _ => lm_cv.ite (lm_cv.ite (hj _ _ _) (hn _ _)) (lm_cv.const _)
    all_goals exact lm_cv.const _
  all_goals first
    | exact lm_cv.const _
    | exact hn _ _
    | exact hj _ _ _
    | exact lm_cv.ldI fun _ => hn _ _
    | exact lm_cv.ldL fun _ => hn _ _
    | exact lm_cv.ldR fun _ => hn _ _
    | exact lm_cv.i1 fun _ _ => hn _ _
    | exact lm_cv.l1 fun _ _ => hn _ _
    | exact lm_cv.r1 fun _ _ => hn _ _
    | exact lm_cv.i2 fun _ _ _ => hn _ _
    | exact lm_cv.l2 fun _ _ _ => hn _ _
    | exact lm_cv.li fun _ _ _ => hn _ _
    | exact lm_cv.i2 fun _ _ _ => lm_cv.ite (hn _ _) (lm_cv.const _)
    | exact lm_cv.l2 fun _ _ _ => lm_cv.ite (hn _ _) (lm_cv.const _)
    | exact lm_cv.i2 fun _ _ _ => lm_cv.ite (hj _ _ _) (hn _ _)
    | exact lm_cv.i1 fun _ _ => lm_cv.ite (hj _ _ _) (hn _ _)
    | exact lm_cv.i1 fun _ _ => lm_cv.ite (hj _ _ _) (lm_cv.opt fun _ => hj _ _ _)
    | exact lm_cv.v1 fun _ _ => lm_cv.cond (hn _ _) (lm_cv.const _)
    | exact lm_cv.v1 fun _ _ => lm_cv.v1 fun _ _ => lm_cv.cond (lm_cv.cond (hn _ _) (lm_cv.const _)) (lm_cv.const _)
    | exact lm_cv.v1 fun _ _ => lm_cv.cond (lm_cv.v1 fun _ _ => lm_cv.cond (hn _ _) (lm_cv.const _)) (hn _ _)
    | exact lm_cv.r1 fun _ _ => lm_cv.k4 (lm_cv.bindC fun _ => hn _ _) (lm_cv.bindC fun _ => hn _ _) (lm_cv.bindC fun _ => hn _ _) (lm_cv.bindC fun _ => hn _ _)
    | exact lm_cv.v1 fun _ _ => lm_cv.r1 fun _ _ => lm_cv.bindC fun _ => hn _ _
    | exact lm_cv.ri fun _ _ _ => lm_cv.bindC fun _ => hn _ _
    | exact lm_cv.r1 fun _ _ => lm_cv.bindC fun _ => hn _ _
    | exact lm_cv.i1 fun _ _ => lm_cv.ri fun _ _ _ => lm_cv.bindC fun _ => hn _ _
    | exact lm_cv.l1 fun _ _ => lm_cv.ri fun _ _ _ => lm_cv.bindC fun _ => hn _ _
    | exact lm_cv.r1 fun _ _ => lm_cv.ri fun _ _ _ => lm_cv.bindC fun _ => hn _ _
    | exact lm_cv.i1 fun _ _ => lm_cv.bindC fun _ => hn _ _
    | exact lm_cv.i2 fun _ _ _ => lm_cv.bindC fun _ => hn _ _
    | exact lm_cv.opt fun _ => lm_cv.bindC fun _ => hn _ _
    | exact lm_cv.r1 fun _ _ => lm_cv.cond (hn _ _) (lm_cv.const _)
    | exact lm_cv.i2 fun _ _ _ => lm_cv.r1 fun _ _ => lm_cv.ri fun _ _ _ => lm_cv.cond (lm_cv.bindC fun _ => hn _ _) (lm_cv.const _)
    | exact lm_cv.cond (lm_cv.cond (lm_cv.inv (hρ _ _) (fun _ => hn _ _) (fun _ _ => hj _ _ _)) (lm_cv.const _)) (lm_cv.const _)
    | exact lm_cv.opt fun _ => lm_cv.cond (lm_cv.cond (lm_cv.bindC fun _ => lm_cv.inv (hρ _ _) (fun _ => hn _ _) (fun _ _ => hj _ _ _)) (lm_cv.const _)) (lm_cv.const _)
theorem lm_blk_cv (hρ : ∀ y as, lm_cv (fun n m => ρn n m y as) (ρ y as)) {back : Nat → Nat → lm_F → lm_M lm_R} {back' : lm_F → lm_M lm_R} (hb : ∀ f, lm_cv (fun n m => back n m f) (back' f)) (es : List lm_E) : ∀ (t : Nat) (lv : lm_L) (st : List Value), lm_cv (fun n m => lm_blk sc (ρn n m) vts dfs hs (back n m) es t lv st) (lm_blk sc ρ vts dfs hs back' es t lv st) := by
  induction es with
  | nil => intro t lv st; exact lm_cv.const _
  | cons e es ih =>
    intro t lv st
    have hg : ∀ (o : Option (List Nat)) (u : Nat) (lv : lm_L) (st : List Value), lm_cv (fun n m => lm_go (back n m) (lm_blk sc (ρn n m) vts dfs hs (back n m) es) o u lv st) (lm_go back' (lm_blk sc ρ vts dfs hs back' es) o u lv st) := by
      intro o u lv st
      cases o with
      | none => exact ih u lv st
      | some ks => exact hb _
    exact lm_cv.cond (lm_ins_cv hρ (fun lv st => hg _ _ lv st) (fun t lv st => hg _ t lv st) e.2.1 e.1 lv st) (ih t lv st)
end LMV
/-- the limit -/
noncomputable def lm_lim {α : Type} (X : Nat → Nat → lm_M α) : lm_M α := fun σ => by
  classical
  exact if h : ∃ r, ∃ n0, ∀ n m, n0 ≤ n → n0 ≤ m → X n m σ = some r then some h.choose else none
theorem lm_lim_cv {α : Type} (X : Nat → Nat → lm_M α) : lm_cv X (lm_lim X) := by
  intro σ r h
  unfold lm_lim at h
  split at h
  · rename_i h1
    cases h
    exact h1.choose_spec
  · cases h
theorem lm_lim_of {α : Type} {X : Nat → Nat → lm_M α} {σ : lm_S} {r : Except Nat α × lm_S} {n0 : Nat} (h : ∀ n m, n0 ≤ n → n0 ≤ m → X n m σ = some r) : lm_lim X σ = some r := by
  have h1 : ∃ r, ∃ n0, ∀ n m, n0 ≤ n → n0 ≤ m → X n m σ = some r := ⟨r, n0, h⟩
  unfold lm_lim
  rw [dif_pos h1]
  obtain ⟨n1, h2⟩ := h1.choose_spec
  have a := h (n0 + n1) (n0 + n1) (by omega) (by omega)
  have b := h2 (n0 + n1) (n0 + n1) (by omega) (by omega)
  rw [a] at b
  exact b.symm
section LMW
variable (sc : lm_H)
/-- a call, without fuel: its depth, the method, the arguments -/
noncomputable def lm_cal (d y : Nat) (as : List Value) : lm_M lm_R := lm_lim fun n _ => lm_call sc lm_P lm_vts lm_dfs n d y as
/-- a run from a frame on, without fuel, calls of depth d -/
noncomputable def lm_rn (d : Nat) (hs : List (Nat × Nat)) (code : Nat → List lm_E) (f : lm_F) : lm_M lm_R := lm_lim fun n m => lm_run sc (lm_call sc lm_P lm_vts lm_dfs n d) lm_vts lm_dfs hs code m f
end LMW
section LMX
variable {sc : lm_H} {d : Nat} {hs : List (Nat × Nat)} {code : Nat → List lm_E} {σ : lm_S} {r : Except Nat lm_R × lm_S}
/-- a region's pass -/
theorem lm_rn_of {f : lm_F} (h : lm_blk sc (lm_cal sc d) lm_vts lm_dfs hs (lm_rn sc d hs code) (code f.1) f.1 f.2.1 f.2.2 σ = some r) : lm_rn sc d hs code f σ = some r := by
  obtain ⟨n0, h1⟩ := lm_blk_cv (ρn := fun n _ => lm_call sc lm_P lm_vts lm_dfs n d) (back := fun n m => lm_run sc (lm_call sc lm_P lm_vts lm_dfs n d) lm_vts lm_dfs hs code m) (fun y as => lm_lim_cv _) (fun f => lm_lim_cv _) (code f.1) f.1 f.2.1 f.2.2 σ r h
  refine lm_lim_of (n0 := n0 + 1) fun n m a1 a2 => ?_
  cases m with
  | zero => omega
  | succ m => exact h1 n m (by omega) (by omega)
/-- a call's run -/
theorem lm_cal_of {y : Nat} {Y : lm_Y} {as : List Value} (hY : lm_P[y]? = some Y) (hl : Nat.ble (lg_sl as).length Y.2.2.1 = true) (h : lm_rn sc d Y.2.2.2.2.1 (lm_reg Y.2.2.2.2.2) (0, lv_args 0 as, []) σ = some r) : lm_cal sc (d + 1) y as σ = some r := by
  obtain ⟨n0, h1⟩ := lm_lim_cv _ σ r h
  refine lm_lim_of (n0 := n0) fun n m a1 a2 => ?_
  show (match lm_P[y]? with
      | some Y => cond (Nat.ble (lg_sl as).length Y.2.2.1) (lm_run sc (lm_call sc lm_P lm_vts lm_dfs n d) lm_vts lm_dfs Y.2.2.2.2.1 (lm_reg Y.2.2.2.2.2) n (0, lv_args 0 as, [])) lm_bad
      | none => lm_bad) σ = some r
  rw [hY]
  dsimp only
  rw [hl, cond_true]
  exact h1 n n a1 a1
end LMX
/-- the claim, out of the law's runs without fuel -/
theorem lm_pure_of (h : ∀ xs : List Int32, xs.length ≤ 3072 → ∃ σ, lm_rn (lm_sc xs) 600 [] (lm_reg lm_law) (0, [(0, .ref lm_B)], []) ([], 601024, 7293033) = some (.ok (some (.int 1)), σ)) : lm_Pure := by
  intro xs hx
  obtain ⟨σ, h1⟩ := h xs hx
  obtain ⟨n0, h2⟩ := lm_lim_cv _ _ _ h1
  exact ⟨n0, σ, h2 n0 n0 (Nat.le_refl _) (Nat.le_refl _)⟩
