/-! ===== kemOpen: decrypt of the class ===== -/
/-- a polynomial of the packet, taken apart -/
def lm_dV (K : Nat → Int32) (a d c : Nat) : Nat := lm_ex d (ln_bv (ln_bt (fun t => K (a + t))) (c * d) d)
def lm_dN (K : Nat → Int32) (du j c : Nat) : Int := lm_nt (fun c => (lm_dV K (32 * du * j) du c : Nat)) c % 3329
def lm_dS (S K : Nat → Int32) (du k : Nat) : Nat → Int := lm_apc (fun _ => 0) (fun j => lm_T12 S 0 j) (fun j => lm_dN K du j) k
def lm_dZ (S K : Nat → Int32) (du dv k c : Nat) : Int := ((lm_dV K (32 * du * k) dv c : Nat) - lm_un (lm_dS S K du k) c) % 3329
def lm_dM (S K : Nat → Int32) (du dv k c : Nat) : Nat := lm_co 1 (lm_dZ S K du dv k c).toNat
theorem lm_dZ_lt {S K : Nat → Int32} {du dv k c : Nat} : (lm_dZ S K du dv k c).toNat < 3329 := by
  have := lm_m3329 ((lm_dV K (32 * du * k) dv c : Nat) - lm_un (lm_dS S K du k) c)
  unfold lm_dZ
  omega
theorem lm_dV_le {K : Nat → Int32} {a d c : Nat} (h1 : 1 ≤ d) (hd : d ≤ 11) : lm_dV K a d c ≤ 3329 := lm_ex_lt hd h1 lm_bv_lt
theorem lm_dN_b {K : Nat → Int32} {du j : Nat} : lm_rg 3328 (lm_dN K du j) := fun c _ => by
  have := lm_m3329 (lm_nt (fun c => (lm_dV K (32 * du * j) du c : Nat)) c)
  unfold lm_dN
  omega
theorem lm_dS_b {S K : Nat → Int32} {du k : Nat} (hk : k ≤ 4) : lm_bnd 2147483647 (lm_dS S K du k) := fun c hc => by
  have := lm_apc_bnd' (S := fun _ => 0) (F := fun j => lm_T12 S 0 j) (H := fun j => lm_dN K du j) (k := k) (fun c _ => by show -3329 ≤ (0 : Int) ∧ (0 : Int) ≤ 3329; decide) (fun j _ => lm_T12_rg.bnd (by decide)) (fun j _ => lm_dN_b.bnd (by decide)) c hc
  unfold lm_dS
  omega
section LMDE
variable {sc : lm_H} {d k du dv : Nat} {m m0 : lm_MI} {n : lm_ML} {x : lm_H × Nat × Nat}
theorem lm_l230u {a : Nat} {i3 : Int32} {K : Nat → Int32} (h14 : m 44 14 = Int32.ofNat du) (hdu : du ≤ 11) (hU : ∀ c, c < 256 → m 70 c = Int32.ofNat (ln_bv (ln_bt (fun t => K (a + t))) (c * du) du)) : ∃ m', (∀ r, r ≠ 70 → m' r = m r) ∧ (∀ c, c < 256 → m' 70 c = Int32.ofNat (lm_dV K a du c)) ∧ ∀ R, lm_rn sc (d + 3) lm_m230.2.2.2.2.1 (lm_reg lm_m230.2.2.2.2.2) (42, [(0, .ref 44), (1, .ref 31), (2, .ref 37), (3, .int i3), (4, .int (Int32.ofNat 256))], []) (lm_w m' n x) = some R → lm_rn sc (d + 3) lm_m230.2.2.2.2.1 (lm_reg lm_m230.2.2.2.2.2) (42, [(0, .ref 44), (1, .ref 31), (2, .ref 37), (3, .int i3), (4, .int (Int32.ofNat 0))], []) (lm_w m n x) = some R := by
  obtain ⟨m', n', ⟨en, h1, h2, h3⟩, k1⟩ := lm_lp (sc := sc) (d := d + 3) (b := 256) (hs := lm_m230.2.2.2.2.1) (code := lm_reg lm_m230.2.2.2.2.2) (x := x) (fr := fun c => (42, [(0, .ref 44), (1, .ref 31), (2, .ref 37), (3, .int i3), (4, .int (Int32.ofNat c))], [])) (I := fun c m' n' => n' = n ∧ (∀ r, r ≠ 70 → m' r = m r) ∧ (∀ j, j < c → m' 70 j = Int32.ofNat (lm_dV K a du j)) ∧ ∀ j, c ≤ j → m' 70 j = m 70 j) (fun c hc m1 n1 ⟨en, h1, h2, h3⟩ => by
    refine ⟨lm_u m1 70 c (Int32.ofNat (lm_dV K a du c)), n1, ⟨en, fun r hr => (lm_u_row hr).trans (h1 r hr), fun j hj => ?_, fun j hj => ?_⟩, fun R K => lm_e230_42 ?_⟩
    · by_cases c0 : j = c
      · subst c0; rw [lm_u_eq]
      · rw [lm_u_ne (by omega)]; exact h2 j (by omega)
    · rw [lm_u_ne (by omega)]; exact h3 j (by omega)
    · have e14 : m1 44 14 = Int32.ofNat du := by rw [h1 44 (by decide)]; exact h14
      have hp := lm_p12 hdu
      unfold lm_q230_42
      rw [lm_K256]
      refine lm_geF (by omega) (by omega) (by omega) ?_
      repeat (first
    | ((with_reducible apply lm_sI); exact rfl)
    | ((with_reducible apply lm_sR); exact rfl)
    | ((with_reducible apply lm_sS); exact rfl; exact rfl)
    | ((with_reducible apply lm_sL); exact rfl)
    | ((with_reducible apply lm_sP); exact rfl; exact rfl)
    | ((with_reducible apply lm_sPL); exact rfl; exact rfl)
    | ((with_reducible apply lm_sAA); exact rfl; exact rfl)
    | ((with_reducible apply lm_sA); (first | exact rfl | assumption); omega)
    | ((with_reducible apply lm_sJ); (first | exact rfl | assumption); omega)
    | ((with_reducible apply lm_sB); (first | exact rfl | assumption); omega)
    | ((with_reducible apply lm_wA); (first | exact rfl | assumption); omega)
    | ((with_reducible apply lm_wJ); (first | exact rfl | assumption); omega)
    | ((with_reducible apply lm_wB); (first | exact rfl | assumption); omega)
    | ((with_reducible apply lm_sAl); (first | exact rfl | assumption); omega)
    | ((with_reducible apply lm_iW); decide))
      simp only [Nat.reduceDiv, Nat.reduceMod]
      rw [h3 c (by omega), hU c hc, e14]
      refine lm_cI (lm_u289 (e := d + 2) hdu (Nat.lt_of_lt_of_le lm_bv_lt (by omega))) ?_
      repeat (first
    | ((with_reducible apply lm_sI); exact rfl)
    | ((with_reducible apply lm_sR); exact rfl)
    | ((with_reducible apply lm_sS); exact rfl; exact rfl)
    | ((with_reducible apply lm_sL); exact rfl)
    | ((with_reducible apply lm_sP); exact rfl; exact rfl)
    | ((with_reducible apply lm_sPL); exact rfl; exact rfl)
    | ((with_reducible apply lm_sAA); exact rfl; exact rfl)
    | ((with_reducible apply lm_sA); (first | exact rfl | assumption); omega)
    | ((with_reducible apply lm_sJ); (first | exact rfl | assumption); omega)
    | ((with_reducible apply lm_sB); (first | exact rfl | assumption); omega)
    | ((with_reducible apply lm_wA); (first | exact rfl | assumption); omega)
    | ((with_reducible apply lm_wJ); (first | exact rfl | assumption); omega)
    | ((with_reducible apply lm_wB); (first | exact rfl | assumption); omega)
    | ((with_reducible apply lm_sAl); (first | exact rfl | assumption); omega)
    | ((with_reducible apply lm_iW); decide))
      rw [lm_K1, lm_oo]
      exact K) 256 0 (by omega) m n ⟨rfl, fun _ _ => rfl, fun j hj => absurd hj (by omega), fun _ _ => rfl⟩
  subst en
  exact ⟨m', h1, h2, k1⟩
/-- the sum -/
theorem lm_l230s (ht : lm_Ktb m) (h12 : m 44 12 = Int32.ofNat k) (h14 : m 44 14 = Int32.ofNat du) (hk : k ≤ 4) (hdu1 : 1 ≤ du) (hdu : du ≤ 11) (hS : ∀ c, c < 256 → m 69 c = Int32.ofInt 0) : ∃ m', (∀ r, (r < 65 ∨ 70 < r) → m' r = m r) ∧ (∀ c, c < 256 → m' 69 c = Int32.ofInt (lm_dS (m 31) (m 37) du k c)) ∧ ∀ R, lm_rn sc (d + 3) lm_m230.2.2.2.2.1 (lm_reg lm_m230.2.2.2.2.2) (10, [(0, .ref 44), (1, .ref 31), (2, .ref 37), (3, .int (Int32.ofNat k))], []) (lm_w m' n x) = some R → lm_rn sc (d + 3) lm_m230.2.2.2.2.1 (lm_reg lm_m230.2.2.2.2.2) (10, [(0, .ref 44), (1, .ref 31), (2, .ref 37), (3, .int (Int32.ofNat 0))], []) (lm_w m n x) = some R := by
  obtain ⟨m', n', ⟨en, h1, h2⟩, k1⟩ := lm_lp (sc := sc) (d := d + 3) (b := k) (hs := lm_m230.2.2.2.2.1) (code := lm_reg lm_m230.2.2.2.2.2) (x := x) (fr := fun j => (10, [(0, .ref 44), (1, .ref 31), (2, .ref 37), (3, .int (Int32.ofNat j))], [])) (I := fun j m' n' => n' = n ∧ (∀ r, (r < 65 ∨ 70 < r) → m' r = m r) ∧ ∀ c, c < 256 → m' 69 c = Int32.ofInt (lm_dS (m 31) (m 37) du j c)) (fun j hj m1 n1 ⟨en, h1, h2⟩ => by
    subst en
    have hjk : 32 * du * j + 32 * du ≤ 32 * 11 * 4 := by
      rw [← Nat.mul_succ]
      exact Nat.mul_le_mul (Nat.mul_le_mul_left _ hdu) (by omega)
    have e44 : m1 44 = m 44 := h1 44 (by decide)
    obtain ⟨m2, c2, p2⟩ := lm_u227 (sc := sc) (e := d + 2) (m := m1) (n := n1) (x := x) (q := 37) (v := 65536) (p := 70) (a := 32 * du * j) (d := du) rfl rfl (by decide) hdu1 (by omega) (by decide) (by omega)
    obtain ⟨m3, f3, v3, k3⟩ := lm_l230u (sc := sc) (d := d) (n := n1) (x := x) (m := m2) (du := du) (a := 32 * du * j) (i3 := Int32.ofNat j) (K := m 37) (by rw [p2.1 44 (by decide), e44]; exact h14) hdu (fun c hc => by
      have := p2.2 c hc
      dsimp only at this
      rw [this, h1 37 (by decide), lm_oN])
    obtain ⟨m4, c4, p4⟩ := lm_u218 (sc := sc) (d := d) (n := n1) (x := x) (m := m3) (p := 70) (G := fun c => (lm_dV (m 37) (32 * du * j) du c : Nat)) rfl (by decide) (fun i hi => by rw [f3 45 (by decide), p2.1 45 (by decide), h1 45 (by decide)]; exact ht.1 i hi) (fun c hc => by
      have := lm_dV_le (K := m 37) (a := 32 * du * j) (c := c) hdu1 hdu
      dsimp only
      omega) (fun c hc => by rw [v3 c hc, lm_oN])
    obtain ⟨m5, c5, p5⟩ := lm_u227 (sc := sc) (e := d + 2) (m := m4) (n := n1) (x := x) (q := 31) (v := 65536) (p := 65 + j) (a := 384 * j) (d := 12) rfl (lm_arV j (by omega)) (by omega) (by decide) (by decide) (by decide) (by omega)
    have r5 : ∀ r, r ≠ 70 → r ≠ 65 + j → m5 r = m1 r := fun r q1 q2 => by rw [p5.1 r q2, p4.1 r q1, f3 r q1, p2.1 r q1]
    obtain ⟨m6, c6, p6⟩ := lm_u220 (sc := sc) (d := d + 2) (n := n1) (x := x) (m0 := m5) (m := m5) (f := 65 + j) (g := 70) (S := lm_dS (m 31) (m 37) du j) (F := lm_T12 (m 31) 0 j) (H := lm_dN (m 37) du j) (lm_arV j (by omega)) rfl (by omega) (by decide) (fun t ht' => by rw [r5 46 (by decide) (by omega), h1 46 (by decide)]; exact ht.2 t ht') ⟨fun _ _ => rfl, fun c hc => by rw [r5 69 (by decide) (by omega)]; exact h2 c hc⟩ (fun c hc => by
      have := p5.2 c hc
      dsimp only at this
      rw [this, p4.1 31 (by decide), f3 31 (by decide), p2.1 31 (by decide), h1 31 (by decide)]
      unfold lm_T12
      rw [Nat.zero_add]) (fun c hc => by
      rw [p5.1 70 (by omega)]
      exact p4.2 c hc) (lm_T12_rg.bnd (by decide)) (lm_dN_b.bnd (by decide))
    refine ⟨m6, n1, ⟨rfl, fun r hr => by rw [p6.1 r (by omega), r5 r (by omega) (by omega), h1 r hr], p6.2⟩, fun R K => lm_e230_10 ?_⟩
    unfold lm_q230_10
    repeat (first
    | ((with_reducible apply lm_sI); exact rfl)
    | ((with_reducible apply lm_sR); exact rfl)
    | ((with_reducible apply lm_sS); exact rfl; exact rfl)
    | ((with_reducible apply lm_sL); exact rfl)
    | ((with_reducible apply lm_sP); exact rfl; exact rfl)
    | ((with_reducible apply lm_sPL); exact rfl; exact rfl)
    | ((with_reducible apply lm_sAA); exact rfl; exact rfl)
    | ((with_reducible apply lm_sA); (first | exact rfl | assumption); omega)
    | ((with_reducible apply lm_sJ); (first | exact rfl | assumption); omega)
    | ((with_reducible apply lm_sB); (first | exact rfl | assumption); omega)
    | ((with_reducible apply lm_wA); (first | exact rfl | assumption); omega)
    | ((with_reducible apply lm_wJ); (first | exact rfl | assumption); omega)
    | ((with_reducible apply lm_wB); (first | exact rfl | assumption); omega)
    | ((with_reducible apply lm_sAl); (first | exact rfl | assumption); omega)
    | ((with_reducible apply lm_iW); decide))
    simp only [Nat.reduceDiv, Nat.reduceMod]
    rw [e44, h12]
    refine lm_geF (by omega) (by omega) (by omega) ?_
    repeat (first
    | ((with_reducible apply lm_sI); exact rfl)
    | ((with_reducible apply lm_sR); exact rfl)
    | ((with_reducible apply lm_sS); exact rfl; exact rfl)
    | ((with_reducible apply lm_sL); exact rfl)
    | ((with_reducible apply lm_sP); exact rfl; exact rfl)
    | ((with_reducible apply lm_sPL); exact rfl; exact rfl)
    | ((with_reducible apply lm_sAA); exact rfl; exact rfl)
    | ((with_reducible apply lm_sA); (first | exact rfl | assumption); omega)
    | ((with_reducible apply lm_sJ); (first | exact rfl | assumption); omega)
    | ((with_reducible apply lm_sB); (first | exact rfl | assumption); omega)
    | ((with_reducible apply lm_wA); (first | exact rfl | assumption); omega)
    | ((with_reducible apply lm_wJ); (first | exact rfl | assumption); omega)
    | ((with_reducible apply lm_wB); (first | exact rfl | assumption); omega)
    | ((with_reducible apply lm_sAl); (first | exact rfl | assumption); omega)
    | ((with_reducible apply lm_iW); decide))
    simp only [Nat.reduceDiv, Nat.reduceMod]
    rw [e44, h14, lm_K32, lm_om, lm_om, lm_K0]
    refine lm_cV c2 ?_
    refine k3 R (lm_e230_42 ?_)
    unfold lm_q230_42
    rw [lm_K256, lm_K12, lm_K384, lm_K1]
    refine lm_geT (by omega) (by omega) (by omega) ?_
    repeat (first
    | ((with_reducible apply lm_sI); exact rfl)
    | ((with_reducible apply lm_sR); exact rfl)
    | ((with_reducible apply lm_sS); exact rfl; exact rfl)
    | ((with_reducible apply lm_sL); exact rfl)
    | ((with_reducible apply lm_sP); exact rfl; exact rfl)
    | ((with_reducible apply lm_sPL); exact rfl; exact rfl)
    | ((with_reducible apply lm_sAA); exact rfl; exact rfl)
    | ((with_reducible apply lm_sA); (first | exact rfl | assumption); omega)
    | ((with_reducible apply lm_sJ); (first | exact rfl | assumption); omega)
    | ((with_reducible apply lm_sB); (first | exact rfl | assumption); omega)
    | ((with_reducible apply lm_wA); (first | exact rfl | assumption); omega)
    | ((with_reducible apply lm_wJ); (first | exact rfl | assumption); omega)
    | ((with_reducible apply lm_wB); (first | exact rfl | assumption); omega)
    | ((with_reducible apply lm_sAl); (first | exact rfl | assumption); omega)
    | ((with_reducible apply lm_iW); decide))
    refine lm_cV c4 ?_
    repeat (first
    | ((with_reducible apply lm_sI); exact rfl)
    | ((with_reducible apply lm_sR); exact rfl)
    | ((with_reducible apply lm_sS); exact rfl; exact rfl)
    | ((with_reducible apply lm_sL); exact rfl)
    | ((with_reducible apply lm_sP); exact rfl; exact rfl)
    | ((with_reducible apply lm_sPL); exact rfl; exact rfl)
    | ((with_reducible apply lm_sAA); exact rfl; exact rfl)
    | ((with_reducible apply lm_sA); (first | exact rfl | assumption); omega)
    | ((with_reducible apply lm_sJ); (first | exact rfl | assumption); omega)
    | ((with_reducible apply lm_sB); (first | exact rfl | assumption); omega)
    | ((with_reducible apply lm_wA); (first | exact rfl | assumption); omega)
    | ((with_reducible apply lm_wJ); (first | exact rfl | assumption); omega)
    | ((with_reducible apply lm_wB); (first | exact rfl | assumption); omega)
    | ((with_reducible apply lm_sAl); (first | exact rfl | assumption); omega)
    | ((with_reducible apply lm_iW); decide))
    refine lm_sAA rfl (lm_roV j (by omega)) ?_
    rw [lm_om]
    refine lm_cV c5 ?_
    repeat (first
    | ((with_reducible apply lm_sI); exact rfl)
    | ((with_reducible apply lm_sR); exact rfl)
    | ((with_reducible apply lm_sS); exact rfl; exact rfl)
    | ((with_reducible apply lm_sL); exact rfl)
    | ((with_reducible apply lm_sP); exact rfl; exact rfl)
    | ((with_reducible apply lm_sPL); exact rfl; exact rfl)
    | ((with_reducible apply lm_sAA); exact rfl; exact rfl)
    | ((with_reducible apply lm_sA); (first | exact rfl | assumption); omega)
    | ((with_reducible apply lm_sJ); (first | exact rfl | assumption); omega)
    | ((with_reducible apply lm_sB); (first | exact rfl | assumption); omega)
    | ((with_reducible apply lm_wA); (first | exact rfl | assumption); omega)
    | ((with_reducible apply lm_wJ); (first | exact rfl | assumption); omega)
    | ((with_reducible apply lm_wB); (first | exact rfl | assumption); omega)
    | ((with_reducible apply lm_sAl); (first | exact rfl | assumption); omega)
    | ((with_reducible apply lm_iW); decide))
    refine lm_sAA rfl (lm_roV j (by omega)) ?_
    repeat (first
    | ((with_reducible apply lm_sI); exact rfl)
    | ((with_reducible apply lm_sR); exact rfl)
    | ((with_reducible apply lm_sS); exact rfl; exact rfl)
    | ((with_reducible apply lm_sL); exact rfl)
    | ((with_reducible apply lm_sP); exact rfl; exact rfl)
    | ((with_reducible apply lm_sPL); exact rfl; exact rfl)
    | ((with_reducible apply lm_sAA); exact rfl; exact rfl)
    | ((with_reducible apply lm_sA); (first | exact rfl | assumption); omega)
    | ((with_reducible apply lm_sJ); (first | exact rfl | assumption); omega)
    | ((with_reducible apply lm_sB); (first | exact rfl | assumption); omega)
    | ((with_reducible apply lm_wA); (first | exact rfl | assumption); omega)
    | ((with_reducible apply lm_wJ); (first | exact rfl | assumption); omega)
    | ((with_reducible apply lm_wB); (first | exact rfl | assumption); omega)
    | ((with_reducible apply lm_sAl); (first | exact rfl | assumption); omega)
    | ((with_reducible apply lm_iW); decide))
    refine lm_cV c6 ?_
    rw [lm_oo]
    exact K) k 0 (by omega) m n ⟨rfl, fun _ _ => rfl, hS⟩
  subst en
  exact ⟨m', h1, h2, k1⟩
/-- decrypt -/
theorem lm_u230 (ht : lm_Ktb m) (h12 : m 44 12 = Int32.ofNat k) (h14 : m 44 14 = Int32.ofNat du) (h15 : m 44 15 = Int32.ofNat dv) (hk : k ≤ 4) (hdu1 : 1 ≤ du) (hdu : du ≤ 11) (hdv1 : 1 ≤ dv) (hdv : dv ≤ 11) : ∃ m', lm_cal sc (d + 4) 230 [.ref 44, .ref 31, .ref 37] (lm_w m n x) = some (.ok none, lm_w m' n x) ∧ (∀ r, (r < 65 ∨ 70 < r) → r ≠ 74 → m' r = m r) ∧ ∀ j, j < 32 → lm_yb (m' 74 j) = ln_bv (lm_ts (lm_dM (m 31) (m 37) du dv k) 1) (8 * j) 8 := by
  obtain ⟨m1, c1, p1⟩ := lm_u287 (sc := sc) (d := d + 2) (m := m) (n := n) (x := x) (p := 69) rfl
  obtain ⟨m2, f2, v2, k2⟩ := lm_l230s (sc := sc) (d := d) (n := n) (x := x) (m := m1) (k := k) (du := du) ⟨by rw [p1.1 45 (by decide)]; exact ht.1, by rw [p1.1 46 (by decide)]; exact ht.2⟩ (by rw [p1.1 44 (by decide)]; exact h12) (by rw [p1.1 44 (by decide)]; exact h14) hk hdu1 hdu p1.2
  rw [p1.1 31 (by decide), p1.1 37 (by decide)] at v2
  have r2 : ∀ r, (r < 65 ∨ 70 < r) → m2 r = m r := fun r hr => by rw [f2 r hr, p1.1 r (by omega)]
  obtain ⟨m3, c3, p3⟩ := lm_u221 (sc := sc) (d := d + 1) (m0 := m2) (m := m2) (n := n) (x := x) (p := 69) (G := lm_dS (m 31) (m 37) du k) rfl ⟨fun _ _ => rfl, v2⟩ (lm_dS_b hk)
  obtain ⟨m4, U, c4, p4, u4⟩ := lm_u290 (sc := sc) (d := d + 2) (m := m3) (n := n) (x := x) (p := 69) (G := fun j => lm_dS (m 31) (m 37) du k j % 3329) rfl (by decide) (fun i hi => by rw [p3.1 45 (by decide), r2 45 (by decide)]; exact ht.1 i hi) (fun c hc => by
    have := lm_m3329 (lm_dS (m 31) (m 37) du k c)
    show -3329 ≤ lm_dS (m 31) (m 37) du k c % 3329 ∧ lm_dS (m 31) (m 37) du k c % 3329 ≤ 3329
    omega) p3.2
  have r4 : ∀ r, (r < 65 ∨ 70 < r) → m4 r = m r := fun r hr => by rw [p4.1 r (by omega), p3.1 r (by omega), r2 r hr]
  have hd4 : 32 * du * k + 32 * dv ≤ 32 * 11 * 4 + 32 * 11 := Nat.add_le_add (Nat.mul_le_mul (Nat.mul_le_mul_left _ hdu) hk) (Nat.mul_le_mul_left _ hdv)
  obtain ⟨m5, c5, p5⟩ := lm_u227 (sc := sc) (e := d + 2) (m := m4) (n := n) (x := x) (q := 37) (v := 65536) (p := 70) (a := 32 * du * k) (d := dv) rfl rfl (by decide) hdv1 (by omega) (by decide) (by omega)
  have v5 : ∀ c, c < 256 → m5 70 c = Int32.ofNat (ln_bv (ln_bt (fun t => m 37 (32 * du * k + t))) (c * dv) dv) := fun c hc => by
    have := p5.2 c hc
    dsimp only at this
    rw [this, r4 37 (by decide), lm_oN]
  have val : ∀ c, c < 256 → ((lm_dV (m 37) (32 * du * k) dv c : Nat) - U c : Int) % 3329 = lm_dZ (m 31) (m 37) du dv k c := fun c hc => by
    unfold lm_dZ
    have h := (u4 c hc).1.tr (lm_un_cg (fun c => ln_cg.em) c)
    exact (ln_cg.sb ln_cg.rf h).eq
  obtain ⟨m6, n6, ⟨en, g0, g1, g2⟩, k6⟩ := lm_lp (sc := sc) (d := d + 3) (b := 256) (hs := lm_m230.2.2.2.2.1) (code := lm_reg lm_m230.2.2.2.2.2) (x := x) (fr := fun c => (163, [(0, .ref 44), (3, .int (Int32.ofNat c))], [])) (I := fun c m' n' => n' = n ∧ (∀ r, r ≠ 69 → m' r = m5 r) ∧ (∀ j, j < c → m' 69 j = Int32.ofNat (lm_dM (m 31) (m 37) du dv k j)) ∧ ∀ j, c ≤ j → m' 69 j = m5 69 j) (fun c hc m1' n1' ⟨en, g0, g1, g2⟩ => by
    have hu := u4 c hc
    have hv := lm_dV_le (K := m 37) (a := 32 * du * k) (c := c) hdv1 hdv
    have hz : Int32.ofInt (lm_dZ (m 31) (m 37) du dv k c) = Int32.ofNat (lm_dZ (m 31) (m 37) du dv k c).toNat := by
      rw [← val c hc, lm_oN, Int.toNat_of_nonneg (lm_m3329 _).1]
    refine ⟨lm_u m1' 69 c (Int32.ofNat (lm_dM (m 31) (m 37) du dv k c)), n1', ⟨en, fun r hr => (lm_u_row hr).trans (g0 r hr), fun j hj => ?_, fun j hj => ?_⟩, fun R K => lm_e230_163 ?_⟩
    · by_cases c0 : j = c
      · subst c0; rw [lm_u_eq]
      · rw [lm_u_ne (by omega)]; exact g1 j (by omega)
    · rw [lm_u_ne (by omega)]; exact g2 j (by omega)
    · have e15 : m1' 44 15 = Int32.ofNat dv := by rw [g0 44 (by decide), p5.1 44 (by decide), r4 44 (by decide)]; exact h15
      have hp := lm_p12 hdv
      unfold lm_q230_163
      rw [lm_K256]
      refine lm_geF (by omega) (by omega) (by omega) ?_
      repeat (first
    | ((with_reducible apply lm_sI); exact rfl)
    | ((with_reducible apply lm_sR); exact rfl)
    | ((with_reducible apply lm_sS); exact rfl; exact rfl)
    | ((with_reducible apply lm_sL); exact rfl)
    | ((with_reducible apply lm_sP); exact rfl; exact rfl)
    | ((with_reducible apply lm_sPL); exact rfl; exact rfl)
    | ((with_reducible apply lm_sAA); exact rfl; exact rfl)
    | ((with_reducible apply lm_sA); (first | exact rfl | assumption); omega)
    | ((with_reducible apply lm_sJ); (first | exact rfl | assumption); omega)
    | ((with_reducible apply lm_sB); (first | exact rfl | assumption); omega)
    | ((with_reducible apply lm_wA); (first | exact rfl | assumption); omega)
    | ((with_reducible apply lm_wJ); (first | exact rfl | assumption); omega)
    | ((with_reducible apply lm_wB); (first | exact rfl | assumption); omega)
    | ((with_reducible apply lm_sAl); (first | exact rfl | assumption); omega)
    | ((with_reducible apply lm_iW); decide))
      simp only [Nat.reduceDiv, Nat.reduceMod]
      rw [g0 70 (by decide), v5 c hc, e15]
      refine lm_cI (lm_u289 (e := d + 2) hdv (Nat.lt_of_lt_of_le lm_bv_lt (by omega))) ?_
      repeat (first
    | ((with_reducible apply lm_sI); exact rfl)
    | ((with_reducible apply lm_sR); exact rfl)
    | ((with_reducible apply lm_sS); exact rfl; exact rfl)
    | ((with_reducible apply lm_sL); exact rfl)
    | ((with_reducible apply lm_sP); exact rfl; exact rfl)
    | ((with_reducible apply lm_sPL); exact rfl; exact rfl)
    | ((with_reducible apply lm_sAA); exact rfl; exact rfl)
    | ((with_reducible apply lm_sA); (first | exact rfl | assumption); omega)
    | ((with_reducible apply lm_sJ); (first | exact rfl | assumption); omega)
    | ((with_reducible apply lm_sB); (first | exact rfl | assumption); omega)
    | ((with_reducible apply lm_wA); (first | exact rfl | assumption); omega)
    | ((with_reducible apply lm_wJ); (first | exact rfl | assumption); omega)
    | ((with_reducible apply lm_wB); (first | exact rfl | assumption); omega)
    | ((with_reducible apply lm_sAl); (first | exact rfl | assumption); omega)
    | ((with_reducible apply lm_iW); decide))
      rw [g2 c (by omega), p5.1 69 (by decide), p4.2 c hc, show lm_ex dv (ln_bv (ln_bt (fun t => m 37 (32 * du * k + t))) (c * dv) dv) = lm_dV (m 37) (32 * du * k) dv c from rfl, lm_oN (lm_dV _ _ _ _), lm_iS]
      refine lm_cI (lm_u286 (d := d + 2) (by omega) (by omega) (by decide) (by decide)) ?_
      rw [val c hc, hz, lm_K1]
      refine lm_cI (lm_u291 (e := d + 2) (d := 1) (by decide) lm_dZ_lt) ?_
      repeat (first
    | ((with_reducible apply lm_sI); exact rfl)
    | ((with_reducible apply lm_sR); exact rfl)
    | ((with_reducible apply lm_sS); exact rfl; exact rfl)
    | ((with_reducible apply lm_sL); exact rfl)
    | ((with_reducible apply lm_sP); exact rfl; exact rfl)
    | ((with_reducible apply lm_sPL); exact rfl; exact rfl)
    | ((with_reducible apply lm_sAA); exact rfl; exact rfl)
    | ((with_reducible apply lm_sA); (first | exact rfl | assumption); omega)
    | ((with_reducible apply lm_sJ); (first | exact rfl | assumption); omega)
    | ((with_reducible apply lm_sB); (first | exact rfl | assumption); omega)
    | ((with_reducible apply lm_wA); (first | exact rfl | assumption); omega)
    | ((with_reducible apply lm_wJ); (first | exact rfl | assumption); omega)
    | ((with_reducible apply lm_wB); (first | exact rfl | assumption); omega)
    | ((with_reducible apply lm_sAl); (first | exact rfl | assumption); omega)
    | ((with_reducible apply lm_iW); decide))
      rw [lm_oo]
      exact K) 256 0 (by omega) m5 n ⟨rfl, fun _ _ => rfl, fun j hj => absurd hj (by omega), fun _ _ => rfl⟩
  subst en
  obtain ⟨m7, c7, p7⟩ := lm_u219 (sc := sc) (e := d + 2) (n := n6) (x := x) (m := m6) (p := 69) (q := 74) (v := 32) (a := 0) (d := 1) (F := lm_dM (m 31) (m 37) du dv k) rfl rfl (by decide) (by decide) (by decide) (by decide) (by decide) (fun c hc => ⟨g1 c hc, lm_co_lt⟩)
  refine ⟨m7, ?_, fun r r1 r2 => ?_, fun j hj => ?_⟩
  · refine lm_cal_of (Y := lm_m230) rfl rfl (lm_e230_0 ?_)
    unfold lm_q230_0
    repeat (first
    | ((with_reducible apply lm_sI); exact rfl)
    | ((with_reducible apply lm_sR); exact rfl)
    | ((with_reducible apply lm_sS); exact rfl; exact rfl)
    | ((with_reducible apply lm_sL); exact rfl)
    | ((with_reducible apply lm_sP); exact rfl; exact rfl)
    | ((with_reducible apply lm_sPL); exact rfl; exact rfl)
    | ((with_reducible apply lm_sAA); exact rfl; exact rfl)
    | ((with_reducible apply lm_sA); (first | exact rfl | assumption); omega)
    | ((with_reducible apply lm_sJ); (first | exact rfl | assumption); omega)
    | ((with_reducible apply lm_sB); (first | exact rfl | assumption); omega)
    | ((with_reducible apply lm_wA); (first | exact rfl | assumption); omega)
    | ((with_reducible apply lm_wJ); (first | exact rfl | assumption); omega)
    | ((with_reducible apply lm_wB); (first | exact rfl | assumption); omega)
    | ((with_reducible apply lm_sAl); (first | exact rfl | assumption); omega)
    | ((with_reducible apply lm_iW); decide))
    refine lm_cV c1 ?_
    rw [lm_K0]
    refine k2 _ (lm_e230_10 ?_)
    unfold lm_q230_10
    repeat (first
    | ((with_reducible apply lm_sI); exact rfl)
    | ((with_reducible apply lm_sR); exact rfl)
    | ((with_reducible apply lm_sS); exact rfl; exact rfl)
    | ((with_reducible apply lm_sL); exact rfl)
    | ((with_reducible apply lm_sP); exact rfl; exact rfl)
    | ((with_reducible apply lm_sPL); exact rfl; exact rfl)
    | ((with_reducible apply lm_sAA); exact rfl; exact rfl)
    | ((with_reducible apply lm_sA); (first | exact rfl | assumption); omega)
    | ((with_reducible apply lm_sJ); (first | exact rfl | assumption); omega)
    | ((with_reducible apply lm_sB); (first | exact rfl | assumption); omega)
    | ((with_reducible apply lm_wA); (first | exact rfl | assumption); omega)
    | ((with_reducible apply lm_wJ); (first | exact rfl | assumption); omega)
    | ((with_reducible apply lm_wB); (first | exact rfl | assumption); omega)
    | ((with_reducible apply lm_sAl); (first | exact rfl | assumption); omega)
    | ((with_reducible apply lm_iW); decide))
    simp only [Nat.reduceDiv, Nat.reduceMod]
    rw [r2 44 (by decide), h12]
    refine lm_geT (by omega) (by omega) (by omega) ?_
    repeat (first
    | ((with_reducible apply lm_sI); exact rfl)
    | ((with_reducible apply lm_sR); exact rfl)
    | ((with_reducible apply lm_sS); exact rfl; exact rfl)
    | ((with_reducible apply lm_sL); exact rfl)
    | ((with_reducible apply lm_sP); exact rfl; exact rfl)
    | ((with_reducible apply lm_sPL); exact rfl; exact rfl)
    | ((with_reducible apply lm_sAA); exact rfl; exact rfl)
    | ((with_reducible apply lm_sA); (first | exact rfl | assumption); omega)
    | ((with_reducible apply lm_sJ); (first | exact rfl | assumption); omega)
    | ((with_reducible apply lm_sB); (first | exact rfl | assumption); omega)
    | ((with_reducible apply lm_wA); (first | exact rfl | assumption); omega)
    | ((with_reducible apply lm_wJ); (first | exact rfl | assumption); omega)
    | ((with_reducible apply lm_wB); (first | exact rfl | assumption); omega)
    | ((with_reducible apply lm_sAl); (first | exact rfl | assumption); omega)
    | ((with_reducible apply lm_iW); decide))
    refine lm_cV c3 ?_
    repeat (first
    | ((with_reducible apply lm_sI); exact rfl)
    | ((with_reducible apply lm_sR); exact rfl)
    | ((with_reducible apply lm_sS); exact rfl; exact rfl)
    | ((with_reducible apply lm_sL); exact rfl)
    | ((with_reducible apply lm_sP); exact rfl; exact rfl)
    | ((with_reducible apply lm_sPL); exact rfl; exact rfl)
    | ((with_reducible apply lm_sAA); exact rfl; exact rfl)
    | ((with_reducible apply lm_sA); (first | exact rfl | assumption); omega)
    | ((with_reducible apply lm_sJ); (first | exact rfl | assumption); omega)
    | ((with_reducible apply lm_sB); (first | exact rfl | assumption); omega)
    | ((with_reducible apply lm_wA); (first | exact rfl | assumption); omega)
    | ((with_reducible apply lm_wJ); (first | exact rfl | assumption); omega)
    | ((with_reducible apply lm_wB); (first | exact rfl | assumption); omega)
    | ((with_reducible apply lm_sAl); (first | exact rfl | assumption); omega)
    | ((with_reducible apply lm_iW); decide))
    refine lm_cV c4 ?_
    repeat (first
    | ((with_reducible apply lm_sI); exact rfl)
    | ((with_reducible apply lm_sR); exact rfl)
    | ((with_reducible apply lm_sS); exact rfl; exact rfl)
    | ((with_reducible apply lm_sL); exact rfl)
    | ((with_reducible apply lm_sP); exact rfl; exact rfl)
    | ((with_reducible apply lm_sPL); exact rfl; exact rfl)
    | ((with_reducible apply lm_sAA); exact rfl; exact rfl)
    | ((with_reducible apply lm_sA); (first | exact rfl | assumption); omega)
    | ((with_reducible apply lm_sJ); (first | exact rfl | assumption); omega)
    | ((with_reducible apply lm_sB); (first | exact rfl | assumption); omega)
    | ((with_reducible apply lm_wA); (first | exact rfl | assumption); omega)
    | ((with_reducible apply lm_wJ); (first | exact rfl | assumption); omega)
    | ((with_reducible apply lm_wB); (first | exact rfl | assumption); omega)
    | ((with_reducible apply lm_sAl); (first | exact rfl | assumption); omega)
    | ((with_reducible apply lm_iW); decide))
    simp only [Nat.reduceDiv, Nat.reduceMod]
    rw [r4 44 (by decide), h12, h14, h15, lm_K32, lm_om, lm_om, lm_K0]
    refine lm_cV c5 ?_
    refine k6 _ (lm_e230_163 ?_)
    unfold lm_q230_163
    rw [lm_K256, lm_K1, lm_K0]
    refine lm_geT (by omega) (by omega) (by omega) ?_
    repeat (first
    | ((with_reducible apply lm_sI); exact rfl)
    | ((with_reducible apply lm_sR); exact rfl)
    | ((with_reducible apply lm_sS); exact rfl; exact rfl)
    | ((with_reducible apply lm_sL); exact rfl)
    | ((with_reducible apply lm_sP); exact rfl; exact rfl)
    | ((with_reducible apply lm_sPL); exact rfl; exact rfl)
    | ((with_reducible apply lm_sAA); exact rfl; exact rfl)
    | ((with_reducible apply lm_sA); (first | exact rfl | assumption); omega)
    | ((with_reducible apply lm_sJ); (first | exact rfl | assumption); omega)
    | ((with_reducible apply lm_sB); (first | exact rfl | assumption); omega)
    | ((with_reducible apply lm_wA); (first | exact rfl | assumption); omega)
    | ((with_reducible apply lm_wJ); (first | exact rfl | assumption); omega)
    | ((with_reducible apply lm_wB); (first | exact rfl | assumption); omega)
    | ((with_reducible apply lm_sAl); (first | exact rfl | assumption); omega)
    | ((with_reducible apply lm_iW); decide))
    exact lm_cV c7 rfl
  · rw [p7.1 r r2, g0 r (by omega), p5.1 r (by omega), r4 r r1]
  · have := p7.2.2 j (by omega)
    rw [Nat.zero_add] at this
    exact this
end LMDE
