/-! ===== kemKeys of the reference ===== -/
theorem lm_nt_em {F : Nat → Int} {j : Nat} : lm_nt (fun c => F c % 3329) j % 3329 = lm_nt F j % 3329 := by
  refine ln_cg.eq ?_
  unfold lm_nt
  exact lm_sg_cg fun t _ => ln_cg.em.mu ln_cg.rf
theorem lm_apr_eq {S S' : Nat → Int} {F F' H H' : Nat → Nat → Int} {k c : Nat} (hk : 1 ≤ k) (hS : ∀ c, ln_cg 3329 (S c) (S' c)) (hF : ∀ j c, ln_cg 3329 (F j c) (F' j c)) (hH : ∀ j c, ln_cg 3329 (H j c) (H' j c)) : lm_apr S F H k c = lm_apc S' F' H' k c % 3329 := by
  rw [← (lm_apc_cg hS hF hH k c).eq]
  obtain ⟨j, e⟩ : ∃ j, k = j + 1 := ⟨k - 1, by omega⟩
  subst e
  show lm_ap (lm_apr S F H j) (F j) (H j) c % 3329 = lm_ap (lm_apr S F H j) (F j) (H j) c % 3329 % 3329
  rw [Int.emod_emod]
theorem lm_nb {v k : Nat} (hv : v < 4294967296) : (Int32.ofNat v).toBitVec.getLsbD k = v.testBit k := by
  rw [← BitVec.testBit_toNat, lm_tn hv]
theorem lm_PB_yb {m : lm_MI} {q a T j : Nat} {S : Nat → Bool} (h : lm_PB m q a T S) (hj : 8 * j + 8 ≤ T) : lm_yb (m q (a + j)) = ln_bv S (8 * j) 8 := by
  have e := lm_bv_yb (fun j => m q (a + j)) j
  rw [← e]
  exact lm_bv_ext fun t ht => h.1 (8 * j + t) (by omega)
/-- polynomials one behind another -/
def lm_Fg (F : Nat → Nat → Int) (x : Nat) : Nat := (F (x / 256) (x % 256)).toNat
theorem lm_pkB_g {F : Nat → Nat → Int} {d j : Nat} (hd : 0 < d) : ln_bv (lm_ts (lm_Fg F) d) (8 * j) 8 = lm_pkB F d j := by
  unfold lm_pkB
  refine lm_bv_ext fun u hu => ?_
  have h1 := Nat.div_add_mod j (32 * d)
  have h2 := Nat.mod_lt j (show 0 < 32 * d by omega)
  generalize j / (32 * d) = i at *
  generalize j % (32 * d) = r at *
  have e : 8 * j + u = (8 * r + u) + (256 * i) * d := by
    rw [← h1, Nat.mul_add, show 8 * (32 * d * i) = 256 * i * d by rw [Nat.mul_comm (32 * d) i, ← Nat.mul_assoc, ← Nat.mul_assoc]; rw [show 8 * i * 32 = 256 * i by omega]]
    omega
  have h3 : (8 * r + u) / d < 256 := Nat.div_lt_of_lt_mul (by omega)
  have e1 : ∀ z, z < 256 → (z + 256 * i) / 256 = i ∧ (z + 256 * i) % 256 = z := fun z hz => by omega
  unfold lm_ts lm_Fg
  rw [e, Nat.add_mul_div_right _ _ hd, Nat.add_mul_mod_self_right, (e1 _ h3).1, (e1 _ h3).2]
theorem lm_arF : ∀ t, t < 30 → lm_ar (233 + t) = some (0, 256) := by decide
theorem lm_roF : ∀ t, t < 30 → ([234, 235, 236, 237, 238, 239, 240, 241, 242, 243, 244, 245, 246, 247, 248, 249, 250, 251, 252, 253, 254, 255, 256, 257, 258, 259, 260, 261, 262, 263] : List Nat)[t]? = some (233 + t + 1) := by decide
section LMRK
variable {sc : lm_H} {C : lm_CX} {d k e q v a : Nat} {m m0 : lm_MI} {n n0 : lm_ML} {x : lm_H × Nat × Nat} {P : Nat → Int32}
/-- what stays in the reference: tables, k, eta, powers -/
def lm_RK0 (C : lm_CX) (k e : Nat) (m : lm_MI) (n : lm_ML) : Prop := lm_cx m n = C ∧ m 203 32 = Int32.ofNat k ∧ m 203 33 = Int32.ofNat e ∧ ∀ i, i < 256 → m 231 i = Int32.ofInt (lm_pk i)
theorem lm_RK0.keep {m' : lm_MI} {n' : lm_ML} (h : lm_RK0 C k e m n) (g : lm_fG m n m' n') (h1 : m' 221 = m 221) (h2 : m' 231 = m 231) : lm_RK0 C k e m' n' := ⟨(g.cx h1).trans h.1, by rw [g.1 32 (by decide) (by decide) (by decide)]; exact h.2.1, by rw [g.1 33 (by decide) (by decide) (by decide)]; exact h.2.2.1, by rw [h2]; exact h.2.2.2⟩
/-- noise and its transform into p -/
theorem lm_rns {p num : Nat} (h : lm_RK0 C k e m n) (he : e = 2 ∨ e = 3) (hp : lm_ar p = some (0, 256)) (hp2 : 232 < p ∧ p < 263) (hq : lm_ar q = some (1, v)) (hv : v ≤ 70000) (hav : a + 32 ≤ v) (hq3 : q ≠ 203 ∧ q ≠ 227) (hP : ∀ i, i < 32 → lm_b8 (m q (a + i)) = lm_b8 (P (32 + i))) : ∃ m1 n1 m' n', lm_cal sc (d + 6) 70 [.ref 203, .ref p, .int (Int32.ofNat e), .ref q, .int (Int32.ofNat a), .int (Int32.ofNat num)] (lm_w m n x) = some (.ok none, lm_w m1 n1 x) ∧ lm_cal sc (d + 6) 71 [.ref 203, .ref p] (lm_w m1 n1 x) = some (.ok none, lm_w m' n' x) ∧ (∀ r, r ≠ 203 → r ≠ 227 → r ≠ 264 → r ≠ p → m' r = m r) ∧ lm_fG m n m' n' ∧ (∀ r, r ≠ 203 → r ≠ 227 → r ≠ 264 → r ≠ p → m1 r = m r) ∧ ∀ c, c < 256 → m' p c = Int32.ofInt (lm_kS C P 32 e num c) := by
  obtain ⟨m1, n1, c1, f1, g1, v1⟩ := lm_u70 (sc := sc) (d := d) (x := x) (w := Int32.ofNat num) h.1 he hp (by omega) hq hv hav hq3
  have ek : lm_cb (ln_bt (lm_Hm C 12 (lm_gn (m q) a (Int32.ofNat num)) 33)) e = lm_kno C P 32 e num := by
    unfold lm_kno
    rw [lm_gn_ext hP]
  rw [ek] at v1
  obtain ⟨m2, n2, c2, p2, f2⟩ := lm_u71 (sc := sc) (d := d + 4) (x := x) (m := m1) (n := n1) (G := fun c => lm_kno C P 32 e num c % 3329) hp (fun i hi => by rw [f1 231 (by decide) (by decide) (by decide) (by omega)]; exact h.2.2.2 i hi) (fun c _ => by
    have := lm_m3329 (lm_kno C P 32 e num c)
    show 0 ≤ lm_kno C P 32 e num c % 3329 ∧ lm_kno C P 32 e num c % 3329 ≤ 4095
    omega) v1
  refine ⟨m1, n1, m2, n2, c1, c2, fun r r1 r2 r3 r4 => (p2.1 r r4).trans (f1 r r1 r2 r3 r4), g1.tr ((lm_fG.of (p2.1 203 (by omega))).tr (lm_fG.ofn f2)), f1, fun c hc => ?_⟩
  rw [p2.2 c hc]
  dsimp only
  rw [lm_nt_em]
  rfl
/-- a polynomial's numbers put as bits, one of them -/
theorem lm_put1 {w c : Nat} {F : Nat → Nat} (hq : lm_ar q = some (1, v)) (hv : v ≤ 70000) (hq3 : q ≠ 203) (hT : m 203 24 = Int32.ofNat (w * c)) (hTv : w * c + w ≤ 8 * v) (hw : 1 ≤ w) (hw2 : w ≤ 20) (h : lm_PB m q 0 (w * c) (lm_ts F w)) (hF : F c < 2 ^ w) : ∃ m', lm_cal sc (d + 1) 74 [.ref 203, .ref q, .int (Int32.ofNat 0), .int (Int32.ofNat (F c)), .int (Int32.ofNat w)] (lm_w m n x) = some (.ok none, lm_w m' n x) ∧ lm_PB m' q 0 (w * (c + 1)) (lm_ts F w) ∧ m' 203 24 = Int32.ofNat (w * (c + 1)) ∧ (∀ r, r ≠ 203 → r ≠ q → m' r = m r) ∧ (∀ j, j ≠ 24 → m' 203 j = m 203 j) ∧ ∀ j, (w * c + w + 7) / 8 ≤ j → m' q j = m q j := by
  have hp := lm_p20 hw2
  obtain ⟨m', c1, p1, t1, f1, g1, o1⟩ := lm_u74 (sc := sc) (e := d) (n := n) (x := x) (a := 0) (d := w) (w := Int32.ofNat (F c)) hq hv hq3 hT (by omega) (by omega) hw2 h (fun k hk => by
    rw [lm_nb (by omega)]
    unfold lm_ts
    rw [Nat.add_comm, Nat.mul_comm w c, Nat.add_mul_div_right _ _ hw, Nat.div_eq_of_lt hk, Nat.zero_add, Nat.add_mul_mod_self_right, Nat.mod_eq_of_lt hk])
  rw [← Nat.mul_succ] at p1 t1
  exact ⟨m', c1, p1, t1, f1, g1, fun j hj => o1 j (by omega)⟩
end LMRK
