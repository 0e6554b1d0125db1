/-! ===== slhSign of the class ===== -/
/-- what a signature is made of -/
def lm_pRs (C : lm_CX) (s : Nat) (Kb Rn Sg : Nat → Int32) (sl : Nat) : Nat → Int32 := lm_rnd C s (fun t => Kb (lm_sn s + t)) Rn Sg sl
def lm_pQ (s : Nat) (Kb : Nat → Int32) (t : Nat) : Int32 := Kb (2 * lm_sn s + t)
def lm_pD (C : lm_CX) (s : Nat) (Kb Rn Sg : Nat → Int32) (sl : Nat) : Nat → Int32 := lm_plD C s (lm_pRs C s Kb Rn Sg sl) (lm_pQ s Kb) Sg sl
def lm_pF (C : lm_CX) (s : Nat) (P S D : Nat → Int32) : Nat → Int32 := lm_sf (lm_WL C s P S 0 (lm_ctn s D)) (Int32.ofNat (lm_clf s D)) D
def lm_pV (C : lm_CX) (s : Nat) (P S D : Nat → Int32) : Nat → Int32 := lm_hfr (lm_WL C s P S 0 (lm_ctn s D)) (Int32.ofNat (lm_clf s D)) D (lm_pF C s P S D)
def lm_pkt (C : lm_CX) (s : Nat) (Kb Rn Sg : Nat → Int32) (sl t : Nat) : Int32 := if t < lm_sn s then lm_pRs C s Kb Rn Sg sl t else if t < lm_sn s + lm_fsz s then lm_pF C s (lm_pQ s Kb) Kb (lm_pD C s Kb Rn Sg sl) (t - lm_sn s) else lm_stb C s (lm_pQ s Kb) Kb (lm_ctn s (lm_pD C s Kb Rn Sg sl)) (lm_clf s (lm_pD C s Kb Rn Sg sl)) (lm_pV C s (lm_pQ s Kb) Kb (lm_pD C s Kb Rn Sg sl)) (t - (lm_sn s + lm_fsz s))
section LMTN
variable {xs : List Int32} {C : lm_CX} {d s k l kk xl ml rl sl : Nat} {m m' : lm_MI} {n n' : lm_ML} {x : lm_H × Nat × Nat} {Sg Kb Rn : Nat → Int32} {v w : Int32}
theorem lm_u181 (hC : lm_Cok xs C) (hs : s ≤ 11) (hF : lm_SF m s) (hr : ln_rt m) (hz : ∀ t, t < 32 → lm_b8 (m 195 t) = 0) (hG : lm_Sgd kk xl ml Sg m) (hsp : lm_spl kk xl ≤ 332) (hml : ml ≤ 65536) (h26 : m 26 1 = Int32.ofNat rl) (hrl : rl = 0 ∨ rl = lm_sn s) (hK : ∀ t, t < 4 * lm_sn s → lm_b8 (m 31 t) = Kb t) (hRn : ∀ t, t < lm_sn s → Rn t = if rl = 0 then Kb (2 * lm_sn s + t) else lm_b8 (m 27 t)) : ∃ m' n', lm_cal (lm_sc xs) (d + 8) 181 [.ref 194, .ref 31, .ref 26, .ref 42, .ref 37] (lm_w m n x) = some (.ok none, lm_w m' n' x) ∧ lm_SY (C, s, lm_pQ s Kb, Kb, 0, 0, 0) m' n' ∧ (∀ r, (r < 5 ∨ 25 < r) → r ≠ 37 → r ≠ 196 → r ≠ 198 → r ≠ 199 → r ≠ 201 → m' r = m r) ∧ lm_fN m n m' n' ∧ (∀ t, t < lm_sn s → lm_b8 (m' 37 t) = lm_pRs C s Kb Rn Sg (lm_sgl kk xl ml) t) ∧ ∀ i, i < lm_fb s + lm_tB s + lm_lb s → lm_b8 (m' 201 i) = lm_pD C s Kb Rn Sg (lm_sgl kk xl ml) i := by
  have hpar := lm_spar s hs
  have key : ∃ m1 n1, lm_cal (lm_sc xs) (d + 7) 258 [.ref 194, .ref 31, .ref (if rl = 0 then 31 else 27), .int (Int32.ofNat (if rl = 0 then 2 * lm_sn s else 0)), .ref 42, .ref 37] (lm_w m n x) = some (.ok none, lm_w m1 n1 x) ∧ (∀ r, (r < 5 ∨ 25 < r) → r ≠ 37 → m1 r = m r) ∧ lm_fN m n m1 n1 ∧ ∀ i, i < lm_sn s → lm_b8 (m1 37 i) = lm_pRs C s Kb Rn Sg (lm_sgl kk xl ml) i := by
    by_cases c : rl = 0
    · rw [if_pos c, if_pos c]
      exact lm_u258 (d := d + 1) (x := x) (q := 31) (v := 65536) (p := 37) (w := 65536) (a := 2 * lm_sn s) (q1 := 31) (v1 := 65536) hC hs hF hr hG hsp hml rfl (by decide) (by omega) (by decide) (fun t ht => hK _ (by omega)) rfl (by decide) (by omega) (by decide) (fun t ht => by rw [hRn t ht, if_pos c]; exact hK _ (by omega)) rfl (by decide) (by decide) (by decide)
    · rw [if_neg c, if_neg c]
      exact lm_u258 (d := d + 1) (x := x) (q := 27) (v := 65536) (p := 37) (w := 65536) (a := 0) (q1 := 31) (v1 := 65536) hC hs hF hr hG hsp hml rfl (by decide) (by omega) (by decide) (fun t ht => hK _ (by omega)) rfl (by decide) (by omega) (by decide) (fun t ht => by rw [hRn t ht, if_neg c, Nat.zero_add]) rfl (by decide) (by decide) (by decide)
  obtain ⟨m1, n1, c1, f1, g1, v1⟩ := key
  have SF1 : lm_SF m1 s := by unfold lm_SF; rw [f1 194 (by decide) (by decide)]; exact hF
  obtain ⟨m2, n2, c2, f2, g2, v2⟩ := lm_u259 (d := d + 1) (x := x) (m := m1) (n := n1) (q1 := 37) (v1 := 65536) (q := 31) (v := 65536) (a := 2 * lm_sn s) (QR := lm_pQ s Kb) (Rb := lm_pRs C s Kb Rn Sg (lm_sgl kk xl ml)) hC hs SF1 (g1.rt hr) (hG.keep (fun r hr => f1 r (by omega) (by omega))) hsp hml rfl (by decide) (by decide) (by omega) (by decide) v1 rfl (by decide) (by decide) (by omega) (by decide) (fun t ht => by rw [f1 31 (by decide) (by decide)]; exact hK _ (by omega))
  have SF2 : lm_SF m2 s := by unfold lm_SF; rw [f2 194 (by decide) (by decide) (by decide)]; exact SF1
  have e31 : m2 31 = m 31 := by rw [f2 31 (by decide) (by decide) (by decide), f1 31 (by decide) (by decide)]
  obtain ⟨m3, n3, c3, S3, f3, g3, w3⟩ := lm_u192 (d := d) (x := x) (m := m2) (n := n2) (q := 31) (v := 65536) (P := lm_pQ s Kb) hC hs SF2 (g2.rt (g1.rt hr)) rfl (by decide) (by decide) (by decide) (by omega) (by decide) (fun t ht => by rw [e31, hK _ (by omega)]; show _ = lm_b8 (Kb (2 * lm_sn s + t)); rw [← hK _ (by omega), lm_b8b8])
  refine ⟨m3, n3, ?_, ⟨S3, lm_A0z (fun t ht => ?_), fun t ht => ?_⟩, fun r q1 q2 q3 q4 q5 q6 => by rw [f3 r (by omega) q3 q5, f2 r q1 q4 q6, f1 r q1 q2], g1.tr (g2.tr g3), fun t ht => by rw [f3 37 (by decide) (by decide) (by decide), f2 37 (by decide) (by decide) (by decide)]; exact v1 t ht, fun i hi => by rw [f3 201 (by decide) (by decide) (by decide)]; exact v2 i hi⟩
  · clear v1 v2 hK hRn hz
    have e44 : lm_rn (lm_sc xs) (d + 7) lm_m181.2.2.2.2.1 (lm_reg lm_m181.2.2.2.2.2) (44, [(0, .ref 194), (1, .ref 31), (3, .ref 42), (4, .ref 37)], [.int (Int32.ofNat (if rl = 0 then 2 * lm_sn s else 0)), .ref (if rl = 0 then 31 else 27), .ref 31, .ref 194]) (lm_w m n x) = some (.ok none, lm_w m3 n3 x) := by
      refine lm_e181_44 ?_
      unfold lm_q181_44
      repeat (first
    | ((with_reducible apply lm_sI); exact rfl)
    | ((with_reducible apply lm_sR); exact rfl)
    | ((with_reducible apply lm_sS); exact rfl; exact rfl)
    | ((with_reducible apply lm_sL); exact rfl)
    | ((with_reducible apply lm_sP); exact rfl; exact rfl)
    | ((with_reducible apply lm_sPL); exact rfl; exact rfl)
    | ((with_reducible apply lm_sAA); exact rfl; exact rfl)
    | ((with_reducible apply lm_sA); (first | exact rfl | assumption); omega)
    | ((with_reducible apply lm_sJ); (first | exact rfl | assumption); omega)
    | ((with_reducible apply lm_sB); (first | exact rfl | assumption); omega)
    | ((with_reducible apply lm_wA); (first | exact rfl | assumption); omega)
    | ((with_reducible apply lm_wJ); (first | exact rfl | assumption); omega)
    | ((with_reducible apply lm_wB); (first | exact rfl | assumption); omega)
    | ((with_reducible apply lm_sAl); (first | exact rfl | assumption); omega)
    | ((with_reducible apply lm_iW); decide))
      refine lm_cV c1 ?_
      repeat (first
    | ((with_reducible apply lm_sI); exact rfl)
    | ((with_reducible apply lm_sR); exact rfl)
    | ((with_reducible apply lm_sS); exact rfl; exact rfl)
    | ((with_reducible apply lm_sL); exact rfl)
    | ((with_reducible apply lm_sP); exact rfl; exact rfl)
    | ((with_reducible apply lm_sPL); exact rfl; exact rfl)
    | ((with_reducible apply lm_sAA); exact rfl; exact rfl)
    | ((with_reducible apply lm_sA); (first | exact rfl | assumption); omega)
    | ((with_reducible apply lm_sJ); (first | exact rfl | assumption); omega)
    | ((with_reducible apply lm_sB); (first | exact rfl | assumption); omega)
    | ((with_reducible apply lm_wA); (first | exact rfl | assumption); omega)
    | ((with_reducible apply lm_wJ); (first | exact rfl | assumption); omega)
    | ((with_reducible apply lm_wB); (first | exact rfl | assumption); omega)
    | ((with_reducible apply lm_sAl); (first | exact rfl | assumption); omega)
    | ((with_reducible apply lm_iW); decide))
      simp only [Nat.reduceDiv, Nat.reduceMod]
      rw [SF1.2.1, lm_K2, lm_om]
      refine lm_cV c2 ?_
      repeat (first
    | ((with_reducible apply lm_sI); exact rfl)
    | ((with_reducible apply lm_sR); exact rfl)
    | ((with_reducible apply lm_sS); exact rfl; exact rfl)
    | ((with_reducible apply lm_sL); exact rfl)
    | ((with_reducible apply lm_sP); exact rfl; exact rfl)
    | ((with_reducible apply lm_sPL); exact rfl; exact rfl)
    | ((with_reducible apply lm_sAA); exact rfl; exact rfl)
    | ((with_reducible apply lm_sA); (first | exact rfl | assumption); omega)
    | ((with_reducible apply lm_sJ); (first | exact rfl | assumption); omega)
    | ((with_reducible apply lm_sB); (first | exact rfl | assumption); omega)
    | ((with_reducible apply lm_wA); (first | exact rfl | assumption); omega)
    | ((with_reducible apply lm_wJ); (first | exact rfl | assumption); omega)
    | ((with_reducible apply lm_wB); (first | exact rfl | assumption); omega)
    | ((with_reducible apply lm_sAl); (first | exact rfl | assumption); omega)
    | ((with_reducible apply lm_iW); decide))
      exact lm_cV c3 rfl
    refine lm_cal_of (Y := lm_m181) rfl rfl (lm_e181_0 ?_)
    unfold lm_q181_0
    repeat (first
    | ((with_reducible apply lm_sI); exact rfl)
    | ((with_reducible apply lm_sR); exact rfl)
    | ((with_reducible apply lm_sS); exact rfl; exact rfl)
    | ((with_reducible apply lm_sL); exact rfl)
    | ((with_reducible apply lm_sP); exact rfl; exact rfl)
    | ((with_reducible apply lm_sPL); exact rfl; exact rfl)
    | ((with_reducible apply lm_sAA); exact rfl; exact rfl)
    | ((with_reducible apply lm_sA); (first | exact rfl | assumption); omega)
    | ((with_reducible apply lm_sJ); (first | exact rfl | assumption); omega)
    | ((with_reducible apply lm_sB); (first | exact rfl | assumption); omega)
    | ((with_reducible apply lm_wA); (first | exact rfl | assumption); omega)
    | ((with_reducible apply lm_wJ); (first | exact rfl | assumption); omega)
    | ((with_reducible apply lm_wB); (first | exact rfl | assumption); omega)
    | ((with_reducible apply lm_sAl); (first | exact rfl | assumption); omega)
    | ((with_reducible apply lm_iW); decide))
    simp only [Nat.reduceDiv, Nat.reduceMod]
    rw [h26]
    by_cases c : rl = 0
    · rw [if_pos c, if_pos c] at e44
      rw [c]
      refine lm_iF (show ¬ ¬ Int32.ofNat 0 = 0 by decide) ?_
      refine lm_e181_12 ?_
      unfold lm_q181_12
      refine lm_iF (show ¬ Int32.ofInt 1 = 0 by decide) ?_
      refine lm_e181_29 ?_
      unfold lm_q181_29
      refine lm_iF (show ¬ Int32.ofInt 1 = 0 by decide) ?_
      repeat (first
    | ((with_reducible apply lm_sI); exact rfl)
    | ((with_reducible apply lm_sR); exact rfl)
    | ((with_reducible apply lm_sS); exact rfl; exact rfl)
    | ((with_reducible apply lm_sL); exact rfl)
    | ((with_reducible apply lm_sP); exact rfl; exact rfl)
    | ((with_reducible apply lm_sPL); exact rfl; exact rfl)
    | ((with_reducible apply lm_sAA); exact rfl; exact rfl)
    | ((with_reducible apply lm_sA); (first | exact rfl | assumption); omega)
    | ((with_reducible apply lm_sJ); (first | exact rfl | assumption); omega)
    | ((with_reducible apply lm_sB); (first | exact rfl | assumption); omega)
    | ((with_reducible apply lm_wA); (first | exact rfl | assumption); omega)
    | ((with_reducible apply lm_wJ); (first | exact rfl | assumption); omega)
    | ((with_reducible apply lm_wB); (first | exact rfl | assumption); omega)
    | ((with_reducible apply lm_sAl); (first | exact rfl | assumption); omega)
    | ((with_reducible apply lm_iW); decide))
      simp only [Nat.reduceDiv, Nat.reduceMod]
      rw [hF.2.1, lm_K2, lm_om]
      exact e44
    · rw [if_neg c, if_neg c] at e44
      refine lm_neT (b := 0) (by omega) (by omega) c ?_
      refine lm_e181_12 ?_
      unfold lm_q181_12
      refine lm_iT (show Int32.ofInt 0 = 0 by decide) ?_
      repeat (first
    | ((with_reducible apply lm_sI); exact rfl)
    | ((with_reducible apply lm_sR); exact rfl)
    | ((with_reducible apply lm_sS); exact rfl; exact rfl)
    | ((with_reducible apply lm_sL); exact rfl)
    | ((with_reducible apply lm_sP); exact rfl; exact rfl)
    | ((with_reducible apply lm_sPL); exact rfl; exact rfl)
    | ((with_reducible apply lm_sAA); exact rfl; exact rfl)
    | ((with_reducible apply lm_sA); (first | exact rfl | assumption); omega)
    | ((with_reducible apply lm_sJ); (first | exact rfl | assumption); omega)
    | ((with_reducible apply lm_sB); (first | exact rfl | assumption); omega)
    | ((with_reducible apply lm_wA); (first | exact rfl | assumption); omega)
    | ((with_reducible apply lm_wJ); (first | exact rfl | assumption); omega)
    | ((with_reducible apply lm_wB); (first | exact rfl | assumption); omega)
    | ((with_reducible apply lm_sAl); (first | exact rfl | assumption); omega)
    | ((with_reducible apply lm_iW); decide))
      refine lm_e181_29 ?_
      unfold lm_q181_29
      refine lm_iT (show Int32.ofInt 0 = 0 by decide) ?_
      rw [lm_K0]
      exact e44
  · rw [f3 195 (by decide) (by decide) (by decide), f2 195 (by decide) (by decide) (by decide), f1 195 (by decide) (by decide)]
    exact hz t ht
  · have ht' : t < lm_sn s := ht
    rw [w3 t ht, e31]
    exact hK t (by omega)
/-- the making of a signature, behind the checks -/
theorem lm_l110 (hC : lm_Cok xs C) (hs : s ≤ 11) (hF : lm_SF m s) (hr : ln_rt m) (hz : ∀ t, t < 32 → lm_b8 (m 195 t) = 0) (hk : kk ≤ 13) (hxk : kk = 0 ∨ xl ≤ 255) (hx : m 34 1 = Int32.ofNat xl) (hxl : xl ≤ 65536) (hm : m 32 1 = Int32.ofNat ml) (hml : ml ≤ 65536) (h26 : m 26 1 = Int32.ofNat rl) (hrl : rl = 0 ∨ rl = lm_sn s) (hK : ∀ t, t < 4 * lm_sn s → lm_b8 (m 31 t) = Kb t) (hRn : ∀ t, t < lm_sn s → Rn t = if rl = 0 then Kb (2 * lm_sn s + t) else lm_b8 (m 27 t)) (hSg : ∀ t, t < lm_sgl kk xl ml → Sg t = lm_sgn C kk (m 35) xl (m 33) ml t) : ∃ m' n', lm_rn (lm_sc xs) (d + 9) lm_m110.2.2.2.2.1 (lm_reg lm_m110.2.2.2.2.2) (98, [(0, .ref 0), (2, .int (ln_kd kk))], [.int (Int32.ofInt 1)]) (lm_w m n x) = some (.ok (some (.int (Int32.ofNat (lm_psz s)))), lm_w m' n' x) ∧ (∀ r, (r < 5 ∨ 25 < r) → r ≠ 36 → r ≠ 37 → r ≠ 42 → r ≠ 43 → (r < 194 ∨ 202 < r) → m' r = m r) ∧ lm_fN m n m' n' ∧ m' 36 1 = Int32.ofNat (lm_psz s) ∧ ∀ t, t < lm_psz s → lm_b8 (m' 37 t) = lm_pkt C s Kb Rn Sg (lm_sgl kk xl ml) t := by
  have hpar := lm_spar s hs
  have hpz := lm_psz_b s hs
  have hsp : lm_spl kk xl ≤ 332 := lm_spl_le hxk
  obtain ⟨m1, n1, c1, f1, g1, s4, s5, s6⟩ := lm_u170 (xs := xs) (d := d + 3) (x := x) (m := m) (n := n) hC hr hk hxk hx hxl hm hml
  have SF1 : lm_SF m1 s := by unfold lm_SF; rw [f1 194 (by decide) (by decide) (by decide)]; exact hF
  have G1 : lm_Sgd kk xl ml Sg m1 := ⟨s4, s5, by rw [f1 32 (by decide) (by decide) (by decide)]; exact hm, fun t ht => by
      rw [s6 t ht, hSg t (by unfold lm_sgl; omega)]
      unfold lm_sgn
      rw [if_pos ht], fun h1 t ht => by
      rw [f1 33 (by decide) (by decide) (by decide), hSg _ (by unfold lm_sgl; rw [if_pos h1]; omega)]
      unfold lm_sgn
      rw [if_neg (by omega), Nat.add_sub_cancel_left]⟩
  obtain ⟨m2, n2, c2, Y2, f2, g2, v2, D2⟩ := lm_u181 (xs := xs) (d := d + 1) (x := x) (m := m1) (n := n1) (Kb := Kb) (Rn := Rn) hC hs SF1 (g1.rt hr) (by rw [f1 195 (by decide) (by decide) (by decide)]; exact hz) G1 hsp hml (by rw [f1 26 (by decide) (by decide) (by decide)]; exact h26) hrl (by rw [f1 31 (by decide) (by decide) (by decide)]; exact hK) (by rw [f1 27 (by decide) (by decide) (by decide)]; exact hRn)
  generalize eD : lm_pD C s Kb Rn Sg (lm_sgl kk xl ml) = D at D2
  have hfz : lm_sn s + lm_fsz s ≤ lm_psz s := by unfold lm_psz; omega
  obtain ⟨m3, n3, c3, X3, f3, g3, o3, p3, v3⟩ := lm_u182 (xs := xs) (d := d + 1) (x := x) (m := m2) (n := n2) (p := 37) (w := 65536) hC hs Y2 rfl (by decide) (by decide) (by omega) (by decide) D2
  have Y3 : lm_SY (C, s, lm_pQ s Kb, Kb, 0, 0, 0) m3 n3 := X3.y
  have D3 : ∀ t, t < lm_fb s + lm_tB s + lm_lb s → lm_b8 (m3 201 t) = D t := fun t ht => by rw [f3 201 (by decide) (by decide) (by decide) (by decide) (by decide) (by decide) (by decide)]; exact D2 t ht
  obtain ⟨m4, n4, c4, Y4, f4, g4, o4, p4⟩ := lm_u183 (xs := xs) (d := d + 1) (x := x) (m := m3) (n := n3) (p := 37) (w := 65536) (V0 := lm_pV C s (lm_pQ s Kb) Kb D) hC hs Y3 v3 rfl (by decide) (by decide) (by omega) (by decide) D3
  have u184 := lm_u184 (sc := lm_sc xs) (d := d + 7) (n := n4) (x := x) Y4.1.1
  generalize eM : lm_u m4 36 1 (Int32.ofNat (lm_psz s)) = M
  have rM : ∀ r, r ≠ 36 → M r = m4 r := fun r hr => by rw [← eM, lm_u_row hr]
  refine ⟨M, n4, ?_, fun r q1 q2 q3 q4 q5 q6 => by rw [rM r q2, f4 r (by omega) (by omega) (by omega) (by omega) (by omega) (by omega) (by omega) q3, f3 r (by omega) (by omega) (by omega) (by omega) (by omega) (by omega) q3, f2 r q1 q3 (by omega) (by omega) (by omega) (by omega), f1 r (by omega) q4 q5], g1.tr (g2.tr (g3.tr (g4.tr (lm_fN.of (rM 11 (by decide)) (rM 17 (by decide)))))), by rw [← eM, lm_u_eq], fun t ht => ?_⟩
  · clear v2 D2 p3 v3 o3 o4 p4 D3 hK hRn hSg hz s6
    refine lm_e110_98 ?_
    unfold lm_q110_98
    refine lm_cV (lm_u160 (d := d + 8)) ?_
    rw [lm_K0, lm_K2, show Int32.ofInt 5 = Int32.ofNat 5 from rfl]
    repeat (first
    | ((with_reducible apply lm_sI); exact rfl)
    | ((with_reducible apply lm_sR); exact rfl)
    | ((with_reducible apply lm_sS); exact rfl; exact rfl)
    | ((with_reducible apply lm_sL); exact rfl)
    | ((with_reducible apply lm_sP); exact rfl; exact rfl)
    | ((with_reducible apply lm_sPL); exact rfl; exact rfl)
    | ((with_reducible apply lm_sAA); exact rfl; first | exact rfl | exact lm_roO (by omega) | exact lm_roM (by omega))
    | ((with_reducible apply lm_sI); exact lm_fpL (by omega))
    | ((with_reducible apply lm_sR); exact lm_fpB (by omega))
    | ((with_reducible apply lm_sP); exact lm_fpL (by omega); exact rfl)
    | ((with_reducible apply lm_sS); exact lm_ocO (by omega); exact rfl)
    | ((with_reducible apply lm_sA); exact rfl; omega)
    | ((with_reducible apply lm_sJ); exact rfl; omega)
    | ((with_reducible apply lm_sB); (first | exact rfl | exact lm_arB (by omega) | exact lm_arM (by omega)); omega)
    | ((with_reducible apply lm_wA); exact rfl; omega)
    | ((with_reducible apply lm_wJ); exact rfl; omega)
    | ((with_reducible apply lm_wB); (first | exact rfl | exact lm_arB (by omega) | exact lm_arM (by omega)); omega)
    | ((with_reducible apply lm_sAl); (first | exact rfl | exact lm_arB (by omega) | exact lm_arM (by omega)); omega)
    | ((with_reducible apply lm_iW); decide))
    refine lm_cV c1 ?_
    repeat (first
    | ((with_reducible apply lm_sI); exact rfl)
    | ((with_reducible apply lm_sR); exact rfl)
    | ((with_reducible apply lm_sS); exact rfl; exact rfl)
    | ((with_reducible apply lm_sL); exact rfl)
    | ((with_reducible apply lm_sP); exact rfl; exact rfl)
    | ((with_reducible apply lm_sPL); exact rfl; exact rfl)
    | ((with_reducible apply lm_sAA); exact rfl; first | exact rfl | exact lm_roO (by omega) | exact lm_roM (by omega))
    | ((with_reducible apply lm_sI); exact lm_fpL (by omega))
    | ((with_reducible apply lm_sR); exact lm_fpB (by omega))
    | ((with_reducible apply lm_sP); exact lm_fpL (by omega); exact rfl)
    | ((with_reducible apply lm_sS); exact lm_ocO (by omega); exact rfl)
    | ((with_reducible apply lm_sA); exact rfl; omega)
    | ((with_reducible apply lm_sJ); exact rfl; omega)
    | ((with_reducible apply lm_sB); (first | exact rfl | exact lm_arB (by omega) | exact lm_arM (by omega)); omega)
    | ((with_reducible apply lm_wA); exact rfl; omega)
    | ((with_reducible apply lm_wJ); exact rfl; omega)
    | ((with_reducible apply lm_wB); (first | exact rfl | exact lm_arB (by omega) | exact lm_arM (by omega)); omega)
    | ((with_reducible apply lm_sAl); (first | exact rfl | exact lm_arB (by omega) | exact lm_arM (by omega)); omega)
    | ((with_reducible apply lm_iW); decide))
    refine lm_cV c2 ?_
    repeat (first
    | ((with_reducible apply lm_sI); exact rfl)
    | ((with_reducible apply lm_sR); exact rfl)
    | ((with_reducible apply lm_sS); exact rfl; exact rfl)
    | ((with_reducible apply lm_sL); exact rfl)
    | ((with_reducible apply lm_sP); exact rfl; exact rfl)
    | ((with_reducible apply lm_sPL); exact rfl; exact rfl)
    | ((with_reducible apply lm_sAA); exact rfl; first | exact rfl | exact lm_roO (by omega) | exact lm_roM (by omega))
    | ((with_reducible apply lm_sI); exact lm_fpL (by omega))
    | ((with_reducible apply lm_sR); exact lm_fpB (by omega))
    | ((with_reducible apply lm_sP); exact lm_fpL (by omega); exact rfl)
    | ((with_reducible apply lm_sS); exact lm_ocO (by omega); exact rfl)
    | ((with_reducible apply lm_sA); exact rfl; omega)
    | ((with_reducible apply lm_sJ); exact rfl; omega)
    | ((with_reducible apply lm_sB); (first | exact rfl | exact lm_arB (by omega) | exact lm_arM (by omega)); omega)
    | ((with_reducible apply lm_wA); exact rfl; omega)
    | ((with_reducible apply lm_wJ); exact rfl; omega)
    | ((with_reducible apply lm_wB); (first | exact rfl | exact lm_arB (by omega) | exact lm_arM (by omega)); omega)
    | ((with_reducible apply lm_sAl); (first | exact rfl | exact lm_arB (by omega) | exact lm_arM (by omega)); omega)
    | ((with_reducible apply lm_iW); decide))
    refine lm_cV c3 ?_
    repeat (first
    | ((with_reducible apply lm_sI); exact rfl)
    | ((with_reducible apply lm_sR); exact rfl)
    | ((with_reducible apply lm_sS); exact rfl; exact rfl)
    | ((with_reducible apply lm_sL); exact rfl)
    | ((with_reducible apply lm_sP); exact rfl; exact rfl)
    | ((with_reducible apply lm_sPL); exact rfl; exact rfl)
    | ((with_reducible apply lm_sAA); exact rfl; first | exact rfl | exact lm_roO (by omega) | exact lm_roM (by omega))
    | ((with_reducible apply lm_sI); exact lm_fpL (by omega))
    | ((with_reducible apply lm_sR); exact lm_fpB (by omega))
    | ((with_reducible apply lm_sP); exact lm_fpL (by omega); exact rfl)
    | ((with_reducible apply lm_sS); exact lm_ocO (by omega); exact rfl)
    | ((with_reducible apply lm_sA); exact rfl; omega)
    | ((with_reducible apply lm_sJ); exact rfl; omega)
    | ((with_reducible apply lm_sB); (first | exact rfl | exact lm_arB (by omega) | exact lm_arM (by omega)); omega)
    | ((with_reducible apply lm_wA); exact rfl; omega)
    | ((with_reducible apply lm_wJ); exact rfl; omega)
    | ((with_reducible apply lm_wB); (first | exact rfl | exact lm_arB (by omega) | exact lm_arM (by omega)); omega)
    | ((with_reducible apply lm_sAl); (first | exact rfl | exact lm_arB (by omega) | exact lm_arM (by omega)); omega)
    | ((with_reducible apply lm_iW); decide))
    refine lm_cV c4 ?_
    repeat (first
    | ((with_reducible apply lm_sI); exact rfl)
    | ((with_reducible apply lm_sR); exact rfl)
    | ((with_reducible apply lm_sS); exact rfl; exact rfl)
    | ((with_reducible apply lm_sL); exact rfl)
    | ((with_reducible apply lm_sP); exact rfl; exact rfl)
    | ((with_reducible apply lm_sPL); exact rfl; exact rfl)
    | ((with_reducible apply lm_sAA); exact rfl; first | exact rfl | exact lm_roO (by omega) | exact lm_roM (by omega))
    | ((with_reducible apply lm_sI); exact lm_fpL (by omega))
    | ((with_reducible apply lm_sR); exact lm_fpB (by omega))
    | ((with_reducible apply lm_sP); exact lm_fpL (by omega); exact rfl)
    | ((with_reducible apply lm_sS); exact lm_ocO (by omega); exact rfl)
    | ((with_reducible apply lm_sA); exact rfl; omega)
    | ((with_reducible apply lm_sJ); exact rfl; omega)
    | ((with_reducible apply lm_sB); (first | exact rfl | exact lm_arB (by omega) | exact lm_arM (by omega)); omega)
    | ((with_reducible apply lm_wA); exact rfl; omega)
    | ((with_reducible apply lm_wJ); exact rfl; omega)
    | ((with_reducible apply lm_wB); (first | exact rfl | exact lm_arB (by omega) | exact lm_arM (by omega)); omega)
    | ((with_reducible apply lm_sAl); (first | exact rfl | exact lm_arB (by omega) | exact lm_arM (by omega)); omega)
    | ((with_reducible apply lm_iW); decide))
    refine lm_cI u184 ?_
    repeat (first
    | ((with_reducible apply lm_sI); exact rfl)
    | ((with_reducible apply lm_sR); exact rfl)
    | ((with_reducible apply lm_sS); exact rfl; exact rfl)
    | ((with_reducible apply lm_sL); exact rfl)
    | ((with_reducible apply lm_sP); exact rfl; exact rfl)
    | ((with_reducible apply lm_sPL); exact rfl; exact rfl)
    | ((with_reducible apply lm_sAA); exact rfl; first | exact rfl | exact lm_roO (by omega) | exact lm_roM (by omega))
    | ((with_reducible apply lm_sI); exact lm_fpL (by omega))
    | ((with_reducible apply lm_sR); exact lm_fpB (by omega))
    | ((with_reducible apply lm_sP); exact lm_fpL (by omega); exact rfl)
    | ((with_reducible apply lm_sS); exact lm_ocO (by omega); exact rfl)
    | ((with_reducible apply lm_sA); exact rfl; omega)
    | ((with_reducible apply lm_sJ); exact rfl; omega)
    | ((with_reducible apply lm_sB); (first | exact rfl | exact lm_arB (by omega) | exact lm_arM (by omega)); omega)
    | ((with_reducible apply lm_wA); exact rfl; omega)
    | ((with_reducible apply lm_wJ); exact rfl; omega)
    | ((with_reducible apply lm_wB); (first | exact rfl | exact lm_arB (by omega) | exact lm_arM (by omega)); omega)
    | ((with_reducible apply lm_sAl); (first | exact rfl | exact lm_arB (by omega) | exact lm_arM (by omega)); omega)
    | ((with_reducible apply lm_iW); decide))
    rw [eM]
    simp only [Nat.reduceDiv, Nat.reduceMod]
    rw [← eM, lm_u_eq]
    exact rfl
  · rw [rM 37 (by decide)]
    unfold lm_pkt
    rw [eD]
    by_cases c1 : t < lm_sn s
    · rw [if_pos c1, o4 t (by omega), o3 t c1, v2 t c1]
    · rw [if_neg c1]
      by_cases c2 : t < lm_sn s + lm_fsz s
      · rw [if_pos c2, o4 t c2]
        have := p3 (t - lm_sn s) (by omega)
        rw [show lm_sn s + (t - lm_sn s) = t by omega] at this
        exact this
      · rw [if_neg c2]
        have := p4 (t - (lm_sn s + lm_fsz s)) (by unfold lm_psz at ht; omega)
        rw [show lm_sn s + lm_fsz s + (t - (lm_sn s + lm_fsz s)) = t by omega] at this
        exact this
end LMTN
