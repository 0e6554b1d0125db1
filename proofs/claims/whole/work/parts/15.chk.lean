/-! ===== THE STATIC CHECKS: what a region says of the bytes, and of the tables ===== -/
def lm_W0 : List Cond := lw_tbl.filter goodWord
theorem lm_W0_good : ∀ w ∈ lm_W0, goodWord w = true := fun _ h => (List.mem_filter.mp h).2
/-- the word at a place: of tables_1; from 10000 on of the private ones; from 20000 on of lm_wx -/
def lm_get (i : Nat) : Option Cond := cond (Nat.blt i 10000) tables_1[i]? (cond (Nat.blt i 20000) (k2_sels lw_privs)[i - 10000]? lm_wx[i - 20000]?)
theorem lm_get_in {i : Nat} {w : Cond} (hi : Nat.blt i 20000 = true) (h : lm_get i = some w) (hg : goodWord w = true) : w ∈ lm_W0 := by
  refine List.mem_filter.mpr ⟨?_, hg⟩
  unfold lm_get at h
  cases h1 : Nat.blt i 10000 with
  | true => rw [h1, cond_true] at h; exact List.mem_append_right _ (List.mem_of_getElem? h)
  | false => rw [h1, cond_false, hi, cond_true] at h; exact List.mem_append_left _ (List.mem_of_getElem? h)
theorem lm_get_wx {i : Nat} {w : Cond} (hi : Nat.blt i 20000 = false) (h : lm_get i = some w) : w ∈ lm_wx := by
  unfold lm_get at h
  have h1 : Nat.blt i 10000 = false := by
    cases h1 : Nat.blt i 10000 with
    | false => rfl
    | true =>
      have := Nat.blt_eq.mp h1
      have h2 : Nat.blt i 20000 = true := Nat.blt_eq.mpr (by omega)
      rw [h2] at hi; cases hi
  rw [h1, cond_false, hi, cond_false] at h
  exact List.mem_of_getElem? h
/-- all the words of a list stand where it says; all the pairs of a list are pairs of one text -/
def lm_ok1 (ws : List (Nat × Cond)) : Prop := ws.map (fun q => some q.2) = ws.map (fun q => lm_get q.1)
def lm_ok2 (es : List (String × String)) : Prop := es.map (fun q => q.1) = es.map (fun q => q.2)
theorem lm_ok1.at {ws : List (Nat × Cond)} (h : lm_ok1 ws) {i : Nat} {w : Cond} (hm : (i, w) ∈ ws) : lm_get i = some w := (List.map_inj_left.mp h _ hm).symm
theorem lm_ok2.at {es : List (String × String)} (h : lm_ok2 es) {a b : String} (hm : (a, b) ∈ es) : a = b := List.map_inj_left.mp h _ hm
theorem lm_ok1.app {a b : List (Nat × Cond)} (h : lm_ok1 (a ++ b)) : lm_ok1 a ∧ lm_ok1 b := by
  unfold lm_ok1 at *
  rw [List.map_append, List.map_append] at h
  exact List.append_inj h (by rw [List.length_map, List.length_map])
theorem lm_ok2.app {a b : List (String × String)} (h : lm_ok2 (a ++ b)) : lm_ok2 a ∧ lm_ok2 b := by
  unfold lm_ok2 at *
  rw [List.map_append, List.map_append] at h
  exact List.append_inj h (by rw [List.length_map, List.length_map])
theorem lm_ok1.of {α : Type} {l : List α} {f : α → List (Nat × Cond)} (h : lm_ok1 (l.flatMap f)) {x : α} (hx : x ∈ l) : lm_ok1 (f x) :=
  List.map_inj_left.mpr fun q hq => (List.map_inj_left.mp h q (List.mem_flatMap.mpr ⟨x, hx, hq⟩))
theorem lm_ok2.of {α : Type} {l : List α} {f : α → List (String × String)} (h : lm_ok2 (l.flatMap f)) {x : α} (hx : x ∈ l) : lm_ok2 (f x) :=
  List.map_inj_left.mpr fun q hq => (List.map_inj_left.mp h q (List.mem_flatMap.mpr ⟨x, hx, hq⟩))
def lm_ty (T : u_T) (k : Nat) : FieldType := (parseFieldDescriptor (T k).2.2.1).getD .int
/-- the classes: words of their fields; types; names -/
def lm_clW (cl : List vw_C) (ps : List (List Nat)) : List (Nat × Cond) := (cl.zip ps).flatMap fun q => ((List.range q.1.2.2).zip q.2).map fun k => (k.2, u_lay q.1.1 q.1.2.1 k.1)
def lm_clN (cl : List vw_C) (ps : List (List Nat)) : Bool := Nat.beq cl.length ps.length && (cl.zip ps).all fun q => Nat.beq q.2.length q.1.2.2 && q.2.all (fun i => Nat.blt i 10000) && (List.range q.1.2.2).all (fun k => (parseFieldDescriptor (q.1.2.1 k).2.2.1).isSome)
def lm_clD (cl : List vw_C) : Prop := ∀ (ci : Nat) (C : String) (T : u_T) (N : Nat), cl[ci]? = some (C, T, N) → ∀ a, a < N → ∀ b, b < N → a ≠ b → (T a).2.1 ≠ (T b).2.1
def lm_clP (cl : List vw_C) : Prop := ∀ (ci : Nat) (C : String) (T : u_T) (N : Nat), cl[ci]? = some (C, T, N) →
    (∀ w ∈ u_ws C T N, w ∈ lm_W0) ∧ (∀ k, k < N → parseFieldDescriptor (T k).2.2.1 = some (lm_ty T k)) ∧ (∀ a, a < N → ∀ b, b < N → a ≠ b → (T a).2.1 ≠ (T b).2.1)
theorem lm_zip {α β : Type} {xs : List α} {ys : List β} (hl : xs.length = ys.length) {i : Nat} {x : α} (h : xs[i]? = some x) : ∃ y, ys[i]? = some y ∧ (x, y) ∈ xs.zip ys := by
  have hlt := (List.getElem?_eq_some_iff.mp h).1
  have h2 : i < ys.length := by omega
  refine ⟨ys[i], List.getElem?_eq_getElem h2, ?_⟩
  have hz : (xs.zip ys)[i]? = some (x, ys[i]) := by
    rw [List.getElem?_zip_eq_some]
    exact ⟨h, List.getElem?_eq_getElem h2⟩
  exact List.mem_of_getElem? hz
theorem lm_clP_of {cl : List vw_C} {ps : List (List Nat)} (hw : lm_ok1 (lm_clW cl ps)) (hn : lm_clN cl ps = true) (hd : lm_clD cl) : lm_clP cl := by
  intro ci C T N hc
  unfold lm_clN at hn
  simp only [Bool.and_eq_true, Nat.beq_eq, List.all_eq_true, List.mem_range] at hn
  obtain ⟨hl, hn⟩ := hn
  obtain ⟨p, hp, hm⟩ := lm_zip hl hc
  obtain ⟨⟨a1, a2⟩, a3⟩ := hn _ hm
  refine ⟨fun w hw9 => ?_, fun k hk => ?_, hd ci C T N hc⟩
  · obtain ⟨k, hk, rfl⟩ := List.mem_map.mp hw9
    have hk := List.mem_range.mp hk
    have hr : (List.range N).length = p.length := by rw [List.length_range]; exact a1.symm
    obtain ⟨i, hi, hm2⟩ := lm_zip hr (List.getElem?_range hk)
    have h9 : lm_get i = some (u_lay C T k) := hw.at (List.mem_flatMap.mpr ⟨_, hm, List.mem_map.mpr ⟨_, hm2, rfl⟩⟩)
    refine lm_get_in ?_ h9 ?_
    · have := Nat.blt_eq.mp (a2 i (List.mem_of_getElem? hi))
      exact Nat.blt_eq.mpr (by omega)
    · unfold u_lay
      split <;> rfl
  · have h2 := a3 k hk
    unfold lm_ty
    cases hp : parseFieldDescriptor (T k).2.2.1 with
    | none => rw [hp] at h2; cases h2
    | some ty => rfl
/-- a field's entry: idx, ref, field, place of its link, place of its sameField (0: none, the declarer is ref itself) -/
def lm_flW (cl : List vw_C) (own : String) (t : Nat × String × Nat × Nat × Nat) : List (Nat × Cond) := cl.zipIdx.flatMap fun q => cond (lm_sub (t.2.2.1 / 400) q.2)
  ((t.2.2.2.1, .fieldLink own t.1 t.2.1 (q.1.2.1 (t.2.2.1 / 4 % 100)).2.1 (q.1.2.1 (t.2.2.1 / 4 % 100)).2.2.1) :: cond (Nat.beq t.2.2.2.2 0) [] [(t.2.2.2.2, .sameField t.2.1 (q.1.2.1 (t.2.2.1 / 4 % 100)).1 (q.1.2.1 (t.2.2.1 / 4 % 100)).2.1 (q.1.2.1 (t.2.2.1 / 4 % 100)).2.2.1)]) []
def lm_flE (cl : List vw_C) (t : Nat × String × Nat × Nat × Nat) : List (String × String) := cl.zipIdx.flatMap fun q => cond (lm_sub (t.2.2.1 / 400) q.2) (cond (Nat.beq t.2.2.2.2 0) [((q.1.2.1 (t.2.2.1 / 4 % 100)).1, t.2.1)] []) []
def lm_flN (cl : List vw_C) (t : Nat × String × Nat × Nat × Nat) : Bool := Nat.blt t.2.2.2.1 10000 && Nat.blt t.2.2.2.2 10000 && cl.zipIdx.all fun q => !(lm_sub (t.2.2.1 / 400) q.2) || Nat.blt (t.2.2.1 / 4 % 100) q.1.2.2
theorem lm_lt2 {i : Nat} (h : Nat.blt i 10000 = true) : Nat.blt i 20000 = true := by
  have := Nat.blt_eq.mp h
  exact Nat.blt_eq.mpr (by omega)
theorem lm_fl_ok {cl : List vw_C} {args : Array Value} {s : State} (hws : ∀ w ∈ lm_W0, w.before args s = true) (hcl : lm_clP cl) {own : String} {t : Nat × String × Nat × Nat × Nat} (h1 : lm_ok1 (lm_flW cl own t)) (h2 : lm_ok2 (lm_flE cl t)) (h3 : lm_flN cl t = true) : lm_fl own args s cl t.1 t.2.1 t.2.2.1 := by
  intro ci C T N hsub hc
  have hm : ((C, T, N), ci) ∈ cl.zipIdx := by
    rw [List.mk_mem_zipIdx_iff_getElem?]
    exact hc
  unfold lm_flN at h3
  simp only [Bool.and_eq_true, List.all_eq_true] at h3
  obtain ⟨⟨n1, n2⟩, n3⟩ := h3
  have n4 := n3 _ hm
  simp only [Bool.or_eq_true, Bool.not_eq_true', Nat.blt_eq] at n4
  have hk : t.2.2.1 / 4 % 100 < N := by
    rcases n4 with n4 | n4
    · rw [hsub] at n4; cases n4
    · exact n4
  have w1 := h1.at (i := t.2.2.2.1) (w := .fieldLink own t.1 t.2.1 (T (t.2.2.1 / 4 % 100)).2.1 (T (t.2.2.1 / 4 % 100)).2.2.1) (List.mem_flatMap.mpr ⟨_, hm, by rw [hsub, cond_true]; exact List.mem_cons_self⟩)
  refine ⟨hk, fun w hw => hws w ((hcl ci C T N hc).1 w hw), hws _ (lm_get_in (lm_lt2 n1) w1 rfl), fun x hx => ?_⟩
  cases hz : Nat.beq t.2.2.2.2 0 with
  | true =>
    have e1 := h2.at (a := (T (t.2.2.1 / 4 % 100)).1) (b := t.2.1) (List.mem_flatMap.mpr ⟨_, hm, by rw [hsub, cond_true, hz, cond_true]; exact List.mem_cons_self⟩)
    rw [← e1]; exact hx
  | false =>
    have w2 := h1.at (i := t.2.2.2.2) (w := .sameField t.2.1 (T (t.2.2.1 / 4 % 100)).1 (T (t.2.2.1 / 4 % 100)).2.1 (T (t.2.2.1 / 4 % 100)).2.2.1) (List.mem_flatMap.mpr ⟨_, hm, by rw [hsub, cond_true, hz, cond_false]; exact List.mem_cons_of_mem _ List.mem_cons_self⟩)
    exact u_same (hws _ (lm_get_in (lm_lt2 n2) w2 rfl)) x hx
/-- a field that may be written: its kind; a final one in its own constructor alone -/
def lm_kdB (k : Nat) (ty : FieldType) : Bool := match k with
  | 0 => (match ty with | .int => true | _ => false)
  | 1 => (match ty with | .long => true | _ => false)
  | 2 => (match ty with | .object _ => true | .array _ => true | _ => false)
  | _ => (match ty with | .boolean => true | _ => false)
theorem lm_kdB_ok {k : Nat} {ty : FieldType} (h : lm_kdB k ty = true) : lm_kd k ty := by
  unfold lm_kdB at h
  unfold lm_kd
  split at h
  · split at h
    · rfl
    · cases h
  · split at h
    · rfl
    · cases h
  · split at h
    · exact Or.inl ⟨_, rfl⟩
    · exact Or.inr ⟨_, rfl⟩
    · cases h
  · rename_i h0 h1 h2
    split at h
    · split
      · exact absurd rfl h0
      · exact absurd rfl h1
      · exact absurd rfl h2
      · rfl
    · cases h
def lm_fpN (cl : List vw_C) (ini : Bool) (f : Nat) : Bool := cl.zipIdx.all fun q => !(lm_sub (f / 400) q.2) || (lm_kdB (f % 4) (lm_ty q.1.2.1 (f / 4 % 100)) && (!(q.1.2.1 (f / 4 % 100)).2.2.2 || ini))
def lm_fpE (cl : List vw_C) (own : String) (f : Nat) : List (String × String) := cl.zipIdx.flatMap fun q => cond (lm_sub (f / 400) q.2) (cond (q.1.2.1 (f / 4 % 100)).2.2.2 [((q.1.2.1 (f / 4 % 100)).1, own)] []) []
theorem lm_fp_ok {cl : List vw_C} {args : Array Value} {s : State} {meth : Method} (hcl : lm_clP cl) {own : String} {ini : Bool} (hini : ini = true → meth.name = "<init>") {f : Nat} (h : lm_fpN cl ini f = true) (h2 : ini = true → lm_ok2 (lm_fpE cl own f)) : lm_fp own args s meth cl f := by
  intro ci C T N hsub hc
  have hm : ((C, T, N), ci) ∈ cl.zipIdx := by
    rw [List.mk_mem_zipIdx_iff_getElem?]
    exact hc
  have h1 := List.all_eq_true.mp h _ hm
  simp only [Bool.or_eq_true, Bool.not_eq_true', Bool.and_eq_true] at h1
  rcases h1 with h1 | ⟨h1, h3⟩
  · rw [hsub] at h1; cases h1
  · obtain ⟨-, hty, hnm⟩ := hcl ci C T N hc
    refine ⟨lm_ty T, hty, hnm, lm_kdB_ok h1, ?_⟩
    cases hf : (T (f / 4 % 100)).2.2.2 with
    | false => exact Or.inl rfl
    | true =>
      have hi : ini = true := by
        rcases h3 with h3 | h3
        · rw [hf] at h3; cases h3
        · exact h3
      exact Or.inr ⟨rfl, hini hi, (h2 hi).at (List.mem_flatMap.mpr ⟨_, hm, by rw [hsub, cond_true, hf, cond_true]; exact List.mem_cons_self⟩)⟩
/-- new: idx, class number, places of classLink, instantiable, initialized -/
def lm_nwW (cl : List vw_C) (own : String) (t : Nat × Nat × Nat × Nat × Nat) : List (Nat × Cond) := match cl[t.2.1]? with
  | some q => [(t.2.2.1, .classLink own t.1 q.1), (t.2.2.2.1, .instantiable q.1 q.2.2), (t.2.2.2.2, .initialized q.1)]
  | none => []
def lm_nwN (cl : List vw_C) (dfs : List (List Value)) (t : Nat × Nat × Nat × Nat × Nat) : Bool := Nat.blt t.2.2.1 10000 && Nat.blt t.2.2.2.1 10000 && Nat.blt t.2.2.2.2 10000 && match cl[t.2.1]?, dfs[t.2.1]? with
  | some q, some fs => Nat.beq fs.length q.2.2 && (List.range q.2.2).all (fun j => decide (defaultValue (lm_ty q.2.1 j) = vp_V fs j)) && fs.all (fun v => match v with | .ref _ => false | _ => true)
  | _, _ => false
theorem lm_noref {fs : List Value} (h : ∀ v ∈ fs, (match v with | .ref _ => false | _ => true) = true) (ad : Nat → Nat) : fs.map (lm_v ad) = fs := by
  induction fs with
  | nil => rfl
  | cons v fs ih =>
    rw [List.map_cons, ih (fun w hw => h w (List.mem_cons_of_mem _ hw))]
    have h1 := h v List.mem_cons_self
    cases v <;> first | rfl | cases h1
theorem lm_nw_ok {cl : List vw_C} {dfs : List (List Value)} {args : Array Value} {s : State} (hws : ∀ w ∈ lm_W0, w.before args s = true) (hcl : lm_clP cl) {own : String} {t : Nat × Nat × Nat × Nat × Nat} (h1 : lm_ok1 (lm_nwW cl own t)) (h : lm_nwN cl dfs t = true) : ∀ fs, dfs[t.2.1]? = some fs → lm_nw own args s cl t.1 t.2.1 fs := by
  intro fs hfs
  unfold lm_nwN at h
  rw [hfs] at h
  simp only [Bool.and_eq_true] at h
  obtain ⟨⟨⟨n1, n2⟩, n3⟩, h⟩ := h
  split at h
  · rename_i q fs' hq hf
    cases hf
    unfold lm_nwW at h1
    rw [hq] at h1
    obtain ⟨C, T, N⟩ := q
    simp only [Bool.and_eq_true, List.all_eq_true, List.mem_range, Nat.beq_eq, decide_eq_true_eq] at h
    obtain ⟨⟨h4, h5⟩, h6⟩ := h
    obtain ⟨hlay, hty, -⟩ := hcl t.2.1 C T N hq
    exact ⟨C, T, N, lm_ty T, hq, fun w hw => hws w (hlay w hw), hty, hws _ (lm_get_in (lm_lt2 n1) (h1.at (by simp)) rfl), hws _ (lm_get_in (lm_lt2 n2) (h1.at (by simp)) rfl), hws _ (lm_get_in (lm_lt2 n3) (h1.at (by simp)) rfl), h4, h5, lm_noref h6⟩
  · cases h
theorem lm_wx_use {w : Cond} {args : Array Value} {s : State} {ad : Nat → Nat} {b : Nat} (hE : lm_Ex ad b s) (hw : w ∈ lm_wx) (hon : w.onTables = true) : w.before args s = true := (hE.2.2.2.2.1 w hw).use hon
/-- a class's own table -/
abbrev lm_Tb : Type := String × List (Nat × String × Nat × Nat × Nat) × List (Nat × Int × Nat) × List (Nat × Nat × Nat) × List (Nat × Nat × Nat × Nat × Nat) × List (Nat × Nat × Nat) × List (Nat × Nat × Nat) × List (Nat × Nat) × List (Nat × Nat) × List (Nat × Nat × Nat × Nat × Nat × Nat) × List (Nat × Nat × Nat) × List (Nat × Nat × Nat × Nat × Nat × Nat × Nat × List (Nat × Nat))
abbrev lm_Tb.own (t : lm_Tb) := t.1
abbrev lm_Tb.fT (t : lm_Tb) := t.2.1
abbrev lm_Tb.cT (t : lm_Tb) := t.2.2.1
abbrev lm_Tb.lT (t : lm_Tb) := t.2.2.2.1
abbrev lm_Tb.kT (t : lm_Tb) := t.2.2.2.2.1
abbrev lm_Tb.aT (t : lm_Tb) := t.2.2.2.2.2.1
abbrev lm_Tb.sT (t : lm_Tb) := t.2.2.2.2.2.2.1
abbrev lm_Tb.iT (t : lm_Tb) := t.2.2.2.2.2.2.2.1
abbrev lm_Tb.yT (t : lm_Tb) := t.2.2.2.2.2.2.2.2.1
abbrev lm_Tb.mS (t : lm_Tb) := t.2.2.2.2.2.2.2.2.2.1
abbrev lm_Tb.mV (t : lm_Tb) := t.2.2.2.2.2.2.2.2.2.2.1
abbrev lm_Tb.eT (t : lm_Tb) := t.2.2.2.2.2.2.2.2.2.2.2
def lm_aty (t : Nat) : FieldType := match t with | 3 => .int | 4 => .byte | _ => .boolean
def lm_aW (own : String) (q : Nat × Nat × Nat) : List (Nat × Cond) := [(q.2.2, .classLink own q.1 (match q.2.1 with | 6 => "LatticeSuite$Bytes" | 3 => "[[I" | 4 => "[[B" | _ => "[[Z"))]
def lm_sW (own : String) (q : Nat × Nat × Nat) : List (Nat × Cond) := match lm_sts[q.2.1 - 1]? with
  | some z => [(q.2.2, cond (Nat.blt q.2.2 20000) (.fieldLink own q.1 z.1 z.2.1 z.2.2) (.fieldLinkNest own q.1 z.1 z.2.1 z.2.2 "LatticeSuite"))]
  | none => []
def lm_sN (q : Nat × Nat × Nat) : Bool := Nat.blt 0 q.2.1 && Nat.blt q.2.1 21 && (Nat.blt q.2.2 10000 || !(Nat.blt q.2.2 20000))
def lm_mh (n : String) : Bool := decide (n ≠ "java/lang/invoke/MethodHandle") && decide (n ≠ "java/lang/invoke/VarHandle")
def lm_prm (d : String) (n : Nat) : Bool := match parseMethodDescriptor d with
  | some sig => Nat.beq n sig.parameters.length
  | none => false
def lm_mSW (P : List lm_Y) (own : String) (q : Nat × Nat × Nat × Nat × Nat × Nat) : List (Nat × Cond) := match P[q.2.1]? with
  | some Y => [(q.2.2.2.1, .methodLink own q.1 Y.1), (q.2.2.2.2.1, .static Y.1), (q.2.2.2.2.2, .initialized Y.1.cls)]
  | none => []
def lm_mSN (P : List lm_Y) (q : Nat × Nat × Nat × Nat × Nat × Nat) : Bool := Nat.blt q.2.2.2.1 10000 && Nat.blt q.2.2.2.2.1 10000 && Nat.blt q.2.2.2.2.2 10000 && match P[q.2.1]? with
  | some Y => lm_prm Y.1.desc q.2.2.1
  | none => false
/-- a virtual table's row: the method named, is it a constructor; for each class: places of selects, instanceMethod, initialized, sameMethod (0: the method named is the one that runs), declares (in lm_wx) -/
abbrev lm_Vx : Type := MethodName × Bool × List (Nat × Nat × Nat × Nat × Nat)
def lm_vcW (cl : List vw_C) (P : List lm_Y) (x : MethodName) (ini : Bool) (q : (Nat × Nat) × (Nat × Nat × Nat × Nat × Nat)) : List (Nat × Cond) := match cl[q.1.1]?, P[q.1.2]? with
  | some C, some Y => (q.2.2.1, .instanceMethod Y.1) :: (q.2.2.2.1, .initialized Y.1.cls) :: cond ini [] ((q.2.1, .selects C.1 x Y.1) :: cond (Nat.beq q.2.2.2.2.1 0) [] [(q.2.2.2.2.1, .sameMethod x.cls "LatticeSuite$Hash" x.name x.desc), (q.2.2.2.2.2, .declares ⟨"LatticeSuite$Hash", x.name, x.desc⟩)])
  | _, _ => []
def lm_vcE (P : List lm_Y) (x : MethodName) (ini : Bool) (q : (Nat × Nat) × (Nat × Nat × Nat × Nat × Nat)) : List (String × String) := match P[q.1.2]? with
  | some Y => (x.desc, Y.1.desc) :: (cond (ini || Nat.beq q.2.2.2.2.1 0) [(x.cls, Y.1.cls), (x.name, Y.1.name)] [] ++ cond ini [(Y.1.name, "<init>")] [])
  | none => []
def lm_vcN (cl : List vw_C) (P : List lm_Y) (ini : Bool) (q : (Nat × Nat) × (Nat × Nat × Nat × Nat × Nat)) : Bool := Nat.blt q.2.2.1 10000 && Nat.blt q.2.2.2.1 10000 && Nat.blt q.2.1 20000 && Nat.blt q.2.2.2.2.1 10000 && (Nat.beq q.2.2.2.2.1 0 || !(Nat.blt q.2.2.2.2.2 20000)) && match cl[q.1.1]?, P[q.1.2]? with
  | some _, some Y => !ini || ((match Y.2.2.2.1 with | none => true | _ => false) && Y.2.2.2.2.1.isEmpty)
  | _, _ => false
def lm_vW (cl : List vw_C) (P : List lm_Y) (w : (Nat × Nat × List (Nat × Nat)) × lm_Vx) : List (Nat × Cond) := (w.1.2.2.zip w.2.2.2).flatMap (lm_vcW cl P w.2.1 w.2.2.1)
def lm_vE (P : List lm_Y) (w : (Nat × Nat × List (Nat × Nat)) × lm_Vx) : List (String × String) := (w.1.2.2.zip w.2.2.2).flatMap (lm_vcE P w.2.1 w.2.2.1)
def lm_vN (cl : List vw_C) (P : List lm_Y) (w : (Nat × Nat × List (Nat × Nat)) × lm_Vx) : Bool := Nat.beq w.1.2.2.length w.2.2.2.length && (w.1.2.2.zip w.2.2.2).all (lm_vcN cl P w.2.2.1) && lm_prm w.2.1.desc (w.1.1 - 1) && Nat.blt 0 w.1.1
/-- own's entry idx of a virtual call: the row v of the virtual tables; 100000 and more: a constructor's; place of its link -/
def lm_mVW (vx : List lm_Vx) (own : String) (q : Nat × Nat × Nat) : List (Nat × Cond) := match vx[q.2.1]? with
  | some v => cond v.2.1 (cond (Nat.blt (q.2.2 - 100000) 20000) [(q.2.2 - 100000, .methodLink own q.1 v.1)] [(q.2.2 - 100000, .methodLinkNest own q.1 v.1 "LatticeSuite")]) [(q.2.2, .methodLink own q.1 v.1)]
  | none => []
def lm_mVN (vx : List lm_Vx) (q : Nat × Nat × Nat) : Bool := match vx[q.2.1]? with
  | some v => cond v.2.1 (Nat.ble 100000 q.2.2) (Nat.blt q.2.2 10000)
  | none => false
/-- a throw: idx of new, of the text, of the constructor, class number, places of classLink, instantiable, initialized; its atoms (0: a place; 1 and on: the four that stand in lm_Ex) -/
def lm_nms : List String := ["java/lang/RuntimeException", "java/lang/Exception"]
def lm_a4 (k : Nat) : Option Cond := match k with
  | 1 => some (.isRef (.static "java/lang/Throwable" "UNASSIGNED_STACK" "[Ljava/lang/StackTraceElement;"))
  | 2 => some (.isRef (.static "java/lang/Throwable" "SUPPRESSED_SENTINEL" "Ljava/util/List;"))
  | 3 => some (.laysStatic "java/lang/Throwable" "UNASSIGNED_STACK" "[Ljava/lang/StackTraceElement;")
  | _ => some (.laysStatic "java/lang/Throwable" "SUPPRESSED_SENTINEL" "Ljava/util/List;")
def lm_aGet (z : Nat × Nat) : Option Cond := cond (Nat.beq z.1 0) (lm_get z.2) (lm_a4 z.1)
abbrev lm_Xe : Type := Nat × Nat × Nat × Nat × Nat × Nat × Nat × List (Nat × Nat)
def lm_exW (cl : List vw_C) (own : String) (q : lm_Xe) : List (Nat × Cond) := match cl[q.2.2.2.1]? with
  | some C => [(q.2.2.2.2.1, .classLink own q.1 C.1), (q.2.2.2.2.2.1, .instantiable C.1 6), (q.2.2.2.2.2.2.1, .initialized C.1)]
  | none => []
def lm_exA (cl : List vw_C) (own : String) (q : lm_Xe) : Prop := match cl[q.2.2.2.1]? with
  | some C => (Jvm.Bundle.ownAtoms own q.2.2.1 C.1 lm_nms).map some = q.2.2.2.2.2.2.2.map lm_aGet ∧ Jvm.Bundle.fit C.1 = true ∧ ∃ z ∈ lm_strs, z.1 = own ∧ z.2.1 = q.2.1
  | none => False
def lm_exN (cl : List vw_C) (q : lm_Xe) : Bool := Nat.blt q.2.2.2.2.1 10000 && Nat.blt q.2.2.2.2.2.1 10000 && Nat.blt q.2.2.2.2.2.2.1 10000 && (match cl[q.2.2.2.1]? with
  | some C => Nat.beq C.2.2 0
  | none => false) && q.2.2.2.2.2.2.2.all (fun z => Nat.blt z.1 5 && (!(Nat.beq z.1 0) || (match lm_get z.2 with | some w => (cond (Nat.blt z.2 20000) (goodWord w) w.onTables) | none => false)))
/-- what a class's table asks -/
def lm_tbW (cl : List vw_C) (P : List lm_Y) (vx : List lm_Vx) (t : lm_Tb) : List (Nat × Cond) :=
  t.fT.flatMap (lm_flW cl t.own) ++ (t.cT.flatMap (fun q => [(q.2.2, .constant t.own q.1 (Int32.ofInt q.2.1))]) ++ (t.lT.flatMap (fun q => [(q.2.2, .constantLong t.own q.1 (Int64.ofNat q.2.1))]) ++ (t.kT.flatMap (lm_nwW cl t.own) ++ (t.aT.flatMap (lm_aW t.own) ++ (t.sT.flatMap (lm_sW t.own) ++
  (t.iT.flatMap (fun q => [(q.2, .methodLink t.own q.1 Lib.objectInit)]) ++ (t.yT.flatMap (fun q => [(q.2, .methodLink t.own q.1 arraycopyName)]) ++ (t.mS.flatMap (lm_mSW P t.own) ++ (t.mV.flatMap (lm_mVW vx t.own) ++ t.eT.flatMap (lm_exW cl t.own))))))))))
def lm_tbN (cl : List vw_C) (dfs : List (List Value)) (P : List lm_Y) (vx : List lm_Vx) (t : lm_Tb) : Bool :=
  t.fT.all (lm_flN cl) && t.cT.all (fun q => Nat.blt q.2.2 10000) && t.lT.all (fun q => Nat.blt q.2.2 10000) && t.kT.all (lm_nwN cl dfs) && t.aT.all (fun q => Nat.blt q.2.2 10000 && (Nat.beq q.2.1 6 || Nat.beq q.2.1 3 || Nat.beq q.2.1 4 || Nat.beq q.2.1 5)) && t.sT.all lm_sN && t.iT.all (fun q => Nat.blt q.2 10000) && t.yT.all (fun q => Nat.blt q.2 10000) && t.mS.all (lm_mSN P) && t.mV.all (lm_mVN vx) && t.eT.all (lm_exN cl)
/-- a class's table is true -/
def lm_tbP (cl : List vw_C) (dfs : List (List Value)) (P : List lm_Y) (vx : List lm_Vx) (t : lm_Tb) : Prop :=
  lm_ok1 (lm_tbW cl P vx t) ∧ lm_ok2 (t.fT.flatMap (lm_flE cl)) ∧ lm_tbN cl dfs P vx t = true ∧ ∀ q ∈ t.eT, lm_exA cl t.own q
