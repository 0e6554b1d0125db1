/-! ===== every method is good ===== -/
theorem lm_reg_mem {rs : List (Nat × List lm_E)} {pc : Nat} {en : lm_E} (h : en ∈ lm_reg rs pc) : ∃ q ∈ rs, en ∈ q.2 := by
  unfold lm_reg at h
  split at h
  · rename_i q hq
    exact ⟨q, List.mem_of_find?_eq_some hq, h⟩
  · cases h
theorem lm_vtP : ∀ q ∈ lm_vts.zip lm_vx, lm_ok1 (lm_vW lm_cl lm_P q) ∧ lm_ok2 (lm_vE lm_P q) ∧ lm_vN lm_cl lm_P q = true := fun q hq => ⟨lm_k_vw.of hq, lm_k_ve.of hq, List.all_eq_true.mp lm_k_vn q hq⟩
theorem lm_hPk : lm_hP lm_cl := by
  have key : ∀ (q : Nat × Nat × Nat) (n : String) (T : u_T), q ∈ lm_hct → lm_cl[q.2.1]? = some (n, T, 0) → n ∈ lm_exs → Nat.blt q.2.2 20000 = true → ∃ n T, lm_cl[q.2.1]? = some (n, T, 0) ∧ n ∈ lm_exs ∧ Cond.classLink "LatticeSuiteLaw" q.1 n ∈ lm_W0 := by
    intro q n T hq hc hn hb
    refine ⟨n, T, hc, hn, ?_⟩
    have h1 : lm_ok1 (match lm_cl[q.2.1]? with | some C => [(q.2.2, Cond.classLink "LatticeSuiteLaw" q.1 C.1)] | none => []) := lm_k_hw.of hq
    rw [hc] at h1
    exact lm_get_in hb (h1.at List.mem_cons_self) rfl
  intro q hq
  simp only [lm_hct, List.mem_cons, List.not_mem_nil, or_false] at hq
  rcases hq with rfl | rfl | rfl | rfl | rfl
  · exact key (13, 12, 461) "java/lang/IndexOutOfBoundsException" (lm_fn lm_F12) (by simp [lm_hct]) rfl (by simp [lm_exs]) rfl
  · exact key (19, 13, 543) "java/lang/IllegalArgumentException" (lm_fn lm_F13) (by simp [lm_hct]) rfl (by simp [lm_exs]) rfl
  · exact key (49, 14, 1099) "java/lang/IllegalStateException" (lm_fn lm_F14) (by simp [lm_hct]) rfl (by simp [lm_exs]) rfl
  · exact key (51, 15, 1100) "java/lang/ArithmeticException" (lm_fn lm_F15) (by simp [lm_hct]) rfl (by simp [lm_exs]) rfl
  · exact key (56, 16, 1206) "java/lang/UnsupportedOperationException" (lm_fn lm_F16) (by simp [lm_hct]) rfl (by simp [lm_exs]) rfl
theorem lm_all_of {α : Type} {f : α → Bool} {l : List α} (h : ∀ k, k < l.length → ((l.drop k).take 1).all f = true) : l.all f = true := by
  refine List.all_eq_true.mpr fun x hx => ?_
  obtain ⟨k, hk, rfl⟩ := List.getElem_of_mem hx
  have h1 := h k hk
  rw [List.drop_eq_getElem_cons hk, List.take_succ_cons, List.all_cons, Bool.and_eq_true] at h1
  exact h1.1
theorem lm_k_d : lm_cl.all lm_dB = true := lm_all_of fun k hk => match k, hk with
  | 0, _ => lm_k_d0
  | 1, _ => lm_k_d1
  | 2, _ => lm_k_d2
  | 3, _ => lm_k_d3
  | 4, _ => lm_k_d4
  | 5, _ => lm_k_d5
  | 6, _ => lm_k_d6
  | 7, _ => lm_k_d7
  | 8, _ => lm_k_d8
  | 9, _ => lm_k_d9
  | 10, _ => lm_k_d10
  | 11, _ => lm_k_d11
  | 12, _ => lm_k_d12
  | 13, _ => lm_k_d13
  | 14, _ => lm_k_d14
  | 15, _ => lm_k_d15
  | 16, _ => lm_k_d16
  | n + 17, h => by
    have h2 : n + 17 < 17 := h
    omega
theorem lm_clPk : lm_clP lm_cl := lm_clP_of lm_k_clw lm_k_cln (lm_dB_ok lm_k_d)
/-- the owners of the methods -/
def lm_ows : List String := ["LatticeSuite", "LatticeSuite$Bytes", "LatticeSuite$Hashes", "LatticeSuite$Hash", "LatticeSuite$Signed", "LatticeSuite$Sponge", "LatticeSuite$Sha256", "LatticeSuite$Sha512", "LatticeSuite$Kem", "LatticeSuite$Dsa", "LatticeSuite$Slh", "LatticeSuiteModel", "LatticeSuiteLaw", "LatticeSuite$Bits", "java/lang/Integer", "java/lang/Long", "java/lang/Math", "java/util/Arrays"]
def lm_owI : List Nat := [0, 11, 12, 11, 11, 12, 11, 12, 11, 12, 11, 12, 11, 12, 11, 12, 11, 12, 11, 12, 11, 12, 11, 12, 11, 12, 11, 12, 11, 12, 11, 12, 11, 12, 11, 12, 11, 12, 11, 12, 11, 1, 2, 4, 8, 9, 10, 11, 0, 11, 11, 0, 11, 0, 0, 0, 0, 0, 0, 0, 11, 11, 11, 11, 11, 11, 11, 0, 11, 11, 11, 11, 11, 11, 11, 11, 0, 11, 11, 0, 11, 11, 11, 11, 11, 0, 11, 11, 11, 11, 11, 11, 11, 11, 11, 0, 11, 11, 11, 11, 0, 11, 11, 11, 11, 11, 0, 11, 11, 11, 0, 11, 11, 11, 11, 11, 11, 11, 11, 11, 11, 0, 0, 5, 6, 7, 13, 11, 11, 11, 11, 13, 0, 1, 17, 0, 13, 0, 2, 2, 3, 2, 2, 5, 6, 7, 11, 11, 11, 11, 0, 8, 8, 11, 11, 11, 11, 11, 11, 8, 0, 8, 8, 8, 8, 9, 9, 11, 4, 9, 4, 9, 11, 9, 9, 9, 10, 10, 11, 11, 11, 10, 10, 10, 10, 11, 11, 11, 11, 11, 11, 10, 10, 10, 10, 3, 14, 11, 17, 17, 5, 6, 7, 2, 2, 16, 5, 6, 7, 3, 3, 5, 5, 3, 3, 8, 8, 8, 8, 13, 8, 8, 8, 8, 11, 11, 11, 13, 8, 8, 8, 9, 9, 9, 9, 9, 9, 9, 9, 9, 9, 4, 9, 9, 9, 9, 9, 11, 9, 9, 9, 9, 9, 16, 9, 9, 9, 9, 10, 10, 10, 10, 10, 10, 10, 10, 10, 10, 10, 10, 10, 10, 10, 14, 17, 3, 14, 15, 5, 6, 7, 5, 6, 7, 15, 8, 16, 17, 8, 8, 8, 8, 9, 5, 16, 4, 9, 9, 9, 9, 9, 9, 9, 10, 10, 10, 10, 10, 10, 9, 9]
def lm_owX : List Nat := [0, 11, 11, 11, 11, 11, 11, 11, 11, 11, 11, 11, 11, 11, 11, 11, 11, 11, 11, 11, 11, 11, 1, 2, 4, 8, 9, 10, 11, 0, 11, 11, 0, 0, 0, 0, 0, 0, 0, 0, 11, 11, 11, 11, 11, 11, 0, 11, 11, 11, 11, 11, 11, 11, 0, 11, 11, 0, 11, 0, 11, 11, 11, 11, 11, 11, 11, 0, 11, 11, 11, 11, 0, 11, 11, 11, 11, 11, 0, 11, 11, 11, 0, 11, 11, 11, 11, 11, 11, 11, 11, 11, 11, 0, 0, 5, 6, 7, 11, 11, 1, 2, 2, 3, 2, 2, 3, 11, 11, 11, 8, 8, 11, 11, 11, 11, 8, 8, 8, 8, 8, 9, 9, 11, 4, 9, 4, 9, 11, 9, 9, 9, 10, 10, 11, 11, 11, 10, 10, 10, 10, 11, 11, 11, 11, 11, 11, 10, 10, 10, 10, 3, 11, 3, 2, 2, 3, 3, 3, 5, 5, 5, 6, 6, 6, 7, 7, 7, 8, 8, 8, 8, 8, 8, 8, 8, 8, 8, 9, 9, 9, 9, 9, 9, 9, 9, 9, 9, 4, 9, 9, 9, 9, 9, 9, 9, 9, 9, 9, 9, 9, 9, 9, 10, 10, 10, 10, 10, 10, 10, 10, 10, 10, 10, 10, 10, 10, 10, 5, 6, 7, 3, 3, 8, 8, 8, 9, 5, 5, 5, 5, 4, 9, 9, 9, 9, 9, 9, 9, 10, 10, 10, 10, 10, 10, 9]
set_option maxRecDepth 100000 in
theorem lm_k_owP : lm_P.map (fun Y => some Y.1.cls) = lm_owI.map (fun k => lm_ows[k]?) := rfl
set_option maxRecDepth 100000 in
theorem lm_k_owX : lm_vx.map (fun x => some x.1.cls) = lm_owX.map (fun k => lm_ows[k]?) := rfl
theorem lm_ow_mem {α : Type} {l : List α} {f : α → String} {ks : List Nat} (h : l.map (fun x => some (f x)) = ks.map (fun k => lm_ows[k]?)) {i : Nat} {x : α} (hx : l[i]? = some x) : f x ∈ lm_ows := by
  have h1 : some (f x) ∈ l.map (fun x => some (f x)) := List.mem_map.mpr ⟨x, List.mem_of_getElem? hx, rfl⟩
  rw [h] at h1
  obtain ⟨k, -, hk⟩ := List.mem_map.mp h1
  exact List.mem_of_getElem? hk
theorem lm_k_noMH : lm_ows.all lm_mh = true := by decide +kernel
theorem lm_noMH_of {n : String} (h : n ∈ lm_ows) : lm_noMH n := by
  have h1 := List.all_eq_true.mp lm_k_noMH n h
  simpa [lm_mh] using h1
theorem lm_mhP : ∀ (y : Nat) (Y : lm_Y), lm_P[y]? = some Y → lm_noMH Y.1.cls := fun y Y h => lm_noMH_of (lm_ow_mem (f := fun Y => Y.1.cls) lm_k_owP h)
theorem lm_mhX : ∀ (v : Nat) (x : lm_Vx), lm_vx[v]? = some x → lm_noMH x.1.cls := fun v x h => lm_noMH_of (lm_ow_mem (f := fun x => x.1.cls) lm_k_owX h)
theorem lm_good_of {i : Nat} {Y : lm_Y} {z : Nat × List (Nat × Nat × Nat × Nat)} {t : lm_Tb} {ini : Bool} {pf : List Nat} (hY : lm_P[i]? = some Y) (hz : lm_cps[i]? = some z) (ho : t.own = Y.1.cls) (hini : ini = true → Y.1.name = "<init>") (hzs : Y.2.2.2.2.1 = [] → z.2 = []) (hm : Nat.ble Y.2.2.1 100 = true) (hn : plainFor Y.1 = true) (htb : lm_tbP lm_cl lm_dfs lm_P lm_vx t) (hpf : ∀ f ∈ pf, lm_ok2 (lm_fpE lm_cl t.own f))
    (hc : Y.2.2.2.2.2.all (fun q => q.2.all (lm_chkE t ini lm_cl Y.2.1 Y.2.2.2.1 Y.2.2.1 z.2 Y.2.2.2.2.1 pf)) = true) : lm_goodY lm_W0 lm_cl lm_dfs lm_vts lm_P Y := by
  refine ⟨hn, Nat.le_of_ble_eq_true hm, z.2, ?_, ?_⟩
  · obtain ⟨z', hz', hm⟩ := lm_k_cd i Y hY
    cases hz.symm.trans hz'
    unfold lm_cwd at hm
    split at hm
    · rename_i h0
      exact Or.inl ⟨hzs h0, hm⟩
    · exact Or.inr hm
  · intro p l e R s m args below meth c D tc ad sc b hx hb hml hown hG hws hname hexc pc en hen
    obtain ⟨q, hq, hen⟩ := lm_reg_mem hen
    have h := List.all_eq_true.mp (List.all_eq_true.mp hc q hq) en hen
    have h2 := lm_chkE_ok (p := p) (l := l) (e := e) (R := R) (below := below) (meth := meth) (c := c) hx hb (by rw [ho]; exact hown) hG hws (fun h => hname.trans (hini h)) hexc lm_clPk lm_hPk lm_k_st htb lm_k_cd lm_vtP lm_k_len1 lm_mhP lm_mhX hpf ⟨_, _, rfl⟩ h
    rw [ho] at h2
    exact h2
theorem lm_pn0 : plainName lm_tb0.own = true := by decide +kernel
theorem lm_pn1 : plainName lm_tb1.own = true := by decide +kernel
theorem lm_pn2 : plainName lm_tb2.own = true := by decide +kernel
theorem lm_pn3 : plainName lm_tb3.own = true := by decide +kernel
theorem lm_pn4 : plainName lm_tb4.own = true := by decide +kernel
theorem lm_pn5 : plainName lm_tb5.own = true := by decide +kernel
theorem lm_pn6 : plainName lm_tb6.own = true := by decide +kernel
theorem lm_pn7 : plainName lm_tb7.own = true := by decide +kernel
theorem lm_pn8 : plainName lm_tb8.own = true := by decide +kernel
theorem lm_pn9 : plainName lm_tb9.own = true := by decide +kernel
theorem lm_pn10 : plainName lm_tb10.own = true := by decide +kernel
theorem lm_pn11 : plainName lm_tb11.own = true := by decide +kernel
theorem lm_pn12 : plainName lm_tb12.own = true := by decide +kernel
theorem lm_pn13 : plainName lm_tb13.own = true := by decide +kernel
theorem lm_pn14 : plainName lm_tb14.own = true := by decide +kernel
theorem lm_pn15 : plainName lm_tb15.own = true := by decide +kernel
theorem lm_pn17 : plainName lm_tb17.own = true := by decide +kernel
theorem lm_inj_aux {i : Nat} {n : String} {T : u_T} (h : lm_cl[i]? = some (n, T, 0)) : (i, n) ∈ [(12, "java/lang/IndexOutOfBoundsException"), (13, "java/lang/IllegalArgumentException"), (14, "java/lang/IllegalStateException"), (15, "java/lang/ArithmeticException"), (16, "java/lang/UnsupportedOperationException")] := by
  match i, h with
  | 0, h =>
    have h2 : (7 : Nat) = 0 := congrArg (fun (o : Option vw_C) => (o.map (fun (q : vw_C) => (q.2.2 : Nat))).getD 1) h
    exact absurd h2 (by decide)
  | 1, h =>
    have h2 : (2 : Nat) = 0 := congrArg (fun (o : Option vw_C) => (o.map (fun (q : vw_C) => (q.2.2 : Nat))).getD 1) h
    exact absurd h2 (by decide)
  | 2, h =>
    have h2 : (6 : Nat) = 0 := congrArg (fun (o : Option vw_C) => (o.map (fun (q : vw_C) => (q.2.2 : Nat))).getD 1) h
    exact absurd h2 (by decide)
  | 3, h =>
    have h2 : (11 : Nat) = 0 := congrArg (fun (o : Option vw_C) => (o.map (fun (q : vw_C) => (q.2.2 : Nat))).getD 1) h
    exact absurd h2 (by decide)
  | 4, h =>
    have h2 : (6 : Nat) = 0 := congrArg (fun (o : Option vw_C) => (o.map (fun (q : vw_C) => (q.2.2 : Nat))).getD 1) h
    exact absurd h2 (by decide)
  | 5, h =>
    have h2 : (11 : Nat) = 0 := congrArg (fun (o : Option vw_C) => (o.map (fun (q : vw_C) => (q.2.2 : Nat))).getD 1) h
    exact absurd h2 (by decide)
  | 6, h =>
    have h2 : (10 : Nat) = 0 := congrArg (fun (o : Option vw_C) => (o.map (fun (q : vw_C) => (q.2.2 : Nat))).getD 1) h
    exact absurd h2 (by decide)
  | 7, h =>
    have h2 : (10 : Nat) = 0 := congrArg (fun (o : Option vw_C) => (o.map (fun (q : vw_C) => (q.2.2 : Nat))).getD 1) h
    exact absurd h2 (by decide)
  | 8, h =>
    have h2 : (16 : Nat) = 0 := congrArg (fun (o : Option vw_C) => (o.map (fun (q : vw_C) => (q.2.2 : Nat))).getD 1) h
    exact absurd h2 (by decide)
  | 9, h =>
    have h2 : (20 : Nat) = 0 := congrArg (fun (o : Option vw_C) => (o.map (fun (q : vw_C) => (q.2.2 : Nat))).getD 1) h
    exact absurd h2 (by decide)
  | 10, h =>
    have h2 : (20 : Nat) = 0 := congrArg (fun (o : Option vw_C) => (o.map (fun (q : vw_C) => (q.2.2 : Nat))).getD 1) h
    exact absurd h2 (by decide)
  | 11, h =>
    have h2 : (75 : Nat) = 0 := congrArg (fun (o : Option vw_C) => (o.map (fun (q : vw_C) => (q.2.2 : Nat))).getD 1) h
    exact absurd h2 (by decide)
  | 12, h =>
    have h2 : "java/lang/IndexOutOfBoundsException" = n := congrArg (fun (o : Option vw_C) => (o.map (fun (q : vw_C) => (q.1 : String))).getD "") h
    subst h2
    simp
  | 13, h =>
    have h2 : "java/lang/IllegalArgumentException" = n := congrArg (fun (o : Option vw_C) => (o.map (fun (q : vw_C) => (q.1 : String))).getD "") h
    subst h2
    simp
  | 14, h =>
    have h2 : "java/lang/IllegalStateException" = n := congrArg (fun (o : Option vw_C) => (o.map (fun (q : vw_C) => (q.1 : String))).getD "") h
    subst h2
    simp
  | 15, h =>
    have h2 : "java/lang/ArithmeticException" = n := congrArg (fun (o : Option vw_C) => (o.map (fun (q : vw_C) => (q.1 : String))).getD "") h
    subst h2
    simp
  | 16, h =>
    have h2 : "java/lang/UnsupportedOperationException" = n := congrArg (fun (o : Option vw_C) => (o.map (fun (q : vw_C) => (q.1 : String))).getD "") h
    subst h2
    simp
  | n + 17, h =>
    have h2 : lm_cl[n + 17]? = none := List.getElem?_eq_none (by show 17 ≤ n + 17; omega)
    rw [h2] at h
    cases h
theorem lm_inj : ∀ (i j : Nat) (n : String) (T U : u_T), lm_cl[i]? = some (n, T, 0) → lm_cl[j]? = some (n, U, 0) → i = j := by
  intro i j n T U h1 h2
  have a1 := lm_inj_aux h1
  have a2 := lm_inj_aux h2
  simp only [List.mem_cons, Prod.mk.injEq, List.not_mem_nil, or_false] at a1 a2
  rcases a1 with ⟨rfl, rfl⟩ | ⟨rfl, rfl⟩ | ⟨rfl, rfl⟩ | ⟨rfl, rfl⟩ | ⟨rfl, rfl⟩ <;> rcases a2 with ⟨rfl, a3⟩ | ⟨rfl, a3⟩ | ⟨rfl, a3⟩ | ⟨rfl, a3⟩ | ⟨rfl, a3⟩ <;> first | rfl | exact absurd a3 (by decide +kernel)
