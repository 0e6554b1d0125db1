/-! ===== dsaKeys of the reference: pieces ===== -/
theorem lm_arY : ∀ t, t < 48 → lm_ar (270 + t) = some (0, 256) := by decide
theorem lm_roY : ∀ t, t < 48 → ([271, 272, 273, 274, 275, 276, 277, 278, 279, 280, 281, 282, 283, 284, 285, 286, 287, 288, 289, 290, 291, 292, 293, 294, 295, 296, 297, 298, 299, 300, 301, 302, 303, 304, 305, 306, 307, 308, 309, 310, 311, 312, 313, 314, 315, 316, 317, 318] : List Nat)[t]? = some (270 + t + 1) := by decide
/-- what dsa sets -/
def lm_RD (C : lm_CX) (s : Nat) (m : lm_MI) (n : lm_ML) : Prop := lm_cx m n = C ∧ m 203 32 = Int32.ofNat (lm_dk s) ∧ m 203 42 = Int32.ofNat (lm_dl s) ∧ m 203 43 = Int32.ofNat (lm_de s) ∧ ∀ i, i < 512 → m 268 i = Int32.ofInt (lm_qk i)
theorem lm_RD.keep {C : lm_CX} {s : Nat} {m m' : lm_MI} {n n' : lm_ML} (h : lm_RD C s m n) (g : lm_fB m n m' n') (h1 : m' 221 = m 221) (h2 : m' 268 = m 268) : lm_RD C s m' n' := ⟨(g.cx h1).trans h.1, by rw [g.1 32 (by decide) (by decide) (by decide) (by decide)]; exact h.2.1, by rw [g.1 42 (by decide) (by decide) (by decide) (by decide)]; exact h.2.2.1, by rw [g.1 43 (by decide) (by decide) (by decide) (by decide)]; exact h.2.2.2.1, by rw [h2]; exact h.2.2.2.2⟩
section LMRH
variable {sc : lm_H} {C : lm_CX} {d s p q v : Nat} {m m0 : lm_MI} {n n0 : lm_ML} {x : lm_H × Nat × Nat}
/-- pack -/
theorem lm_u88 {T bits : Nat} {B : Int} {V : Nat → Int} {S : Nat → Bool} (hq : lm_ar q = some (1, v)) (hv : v ≤ 70000) (hq3 : q ≠ 203) (hp : lm_ar p = some (0, 256)) (hp3 : p ≠ 203 ∧ p ≠ q) (hT : m 203 24 = Int32.ofNat T) (hTv : T + bits * 256 ≤ 8 * v) (hb : bits ≤ 20) (hV : ∀ i, i < 256 → m p i = Int32.ofInt (V i) ∧ 0 ≤ B - V i ∧ B - V i < 1048576) (h : lm_PB m q 0 T S) (hS : ∀ i, i < 256 → ∀ k, k < bits → S (T + bits * i + k) = (B - V i).toNat.testBit k) : ∃ m', lm_cal sc (d + 2) 88 [.ref 203, .ref q, .int (Int32.ofNat 0), .ref p, .int (Int32.ofInt B), .int (Int32.ofNat bits)] (lm_w m n x) = some (.ok none, lm_w m' n x) ∧ lm_PB m' q 0 (T + bits * 256) S ∧ m' 203 24 = Int32.ofNat (T + bits * 256) ∧ (∀ r, r ≠ 203 → r ≠ q → m' r = m r) ∧ ∀ j, j ≠ 24 → m' 203 j = m 203 j := by
  obtain ⟨m', n', ⟨en, h1, h2, h3, h4⟩, k1⟩ := lm_lp (sc := sc) (d := d + 1) (b := 256) (hs := lm_m88.2.2.2.2.1) (code := lm_reg lm_m88.2.2.2.2.2) (x := x) (fr := fun i => (3, [(0, .ref 203), (1, .ref q), (2, .int (Int32.ofNat 0)), (3, .ref p), (4, .int (Int32.ofInt B)), (5, .int (Int32.ofNat bits)), (6, .int (Int32.ofNat i))], [])) (I := fun i m' n' => n' = n ∧ (∀ r, r ≠ 203 → r ≠ q → m' r = m r) ∧ (∀ j, j ≠ 24 → m' 203 j = m 203 j) ∧ m' 203 24 = Int32.ofNat (T + bits * i) ∧ lm_PB m' q 0 (T + bits * i) S) (fun i hi m1 n1 ⟨en, h1, h2, h3, h4⟩ => by
    have hv' := hV i hi
    have hi2 : bits * i + bits ≤ bits * 256 := by
      rw [← Nat.mul_succ]
      exact Nat.mul_le_mul_left _ hi
    obtain ⟨m2, c2, p2, t2, f2, g2, o2⟩ := lm_u74 (sc := sc) (e := d) (m := m1) (n := n1) (x := x) (q := q) (v := v) (a := 0) (d := bits) (w := Int32.ofNat (B - V i).toNat) hq hv hq3 h3 (by omega) (by omega) hb h4 (fun k hk => by
      rw [lm_nb (by omega), hS i hi k hk])
    rw [Nat.add_assoc, ← Nat.mul_succ] at p2 t2
    refine ⟨m2, n1, ⟨en, fun r r1 r2 => (f2 r r1 r2).trans (h1 r r1 r2), fun j hj => (g2 j hj).trans (h2 j hj), t2, p2⟩, fun R K => lm_e88_3 ?_⟩
    unfold lm_q88_3
    rw [lm_K256]
    refine lm_geF (by omega) (by omega) (by omega) ?_
    repeat (first
    | ((with_reducible apply lm_sI); exact rfl)
    | ((with_reducible apply lm_sR); exact rfl)
    | ((with_reducible apply lm_sS); exact rfl; exact rfl)
    | ((with_reducible apply lm_sL); exact rfl)
    | ((with_reducible apply lm_sP); exact rfl; exact rfl)
    | ((with_reducible apply lm_sPL); exact rfl; exact rfl)
    | ((with_reducible apply lm_sAA); exact rfl; exact rfl)
    | ((with_reducible apply lm_sA); (first | exact rfl | assumption); omega)
    | ((with_reducible apply lm_sJ); (first | exact rfl | assumption); omega)
    | ((with_reducible apply lm_sB); (first | exact rfl | assumption); omega)
    | ((with_reducible apply lm_wA); (first | exact rfl | assumption); omega)
    | ((with_reducible apply lm_wJ); (first | exact rfl | assumption); omega)
    | ((with_reducible apply lm_wB); (first | exact rfl | assumption); omega)
    | ((with_reducible apply lm_sAl); (first | exact rfl | assumption); omega)
    | ((with_reducible apply lm_iW); decide))
    rw [h1 p hp3.1 hp3.2, hv'.1, lm_iS, show Int32.ofInt (B - V i) = Int32.ofNat (B - V i).toNat by rw [lm_oN, Int.toNat_of_nonneg hv'.2.1]]
    refine lm_cV c2 ?_
    rw [lm_K1, lm_oo]
    exact K) 256 0 (by omega) m n ⟨rfl, fun _ _ _ => rfl, fun _ _ => rfl, hT, h⟩
  subst en
  refine ⟨m', ?_, h4, h3, h1, h2⟩
  refine lm_cal_of (Y := lm_m88) rfl rfl (lm_e88_0 ?_)
  unfold lm_q88_0
  rw [lm_K0]
  refine k1 _ (lm_e88_3 ?_)
  unfold lm_q88_3
  rw [lm_K256]
  exact lm_geT (by omega) (by omega) (by omega) rfl
/-- the small polynomials of the reference -/
def lm_I96 (C : lm_CX) (K : Nat → Int32) (e : Nat) (m0 : lm_MI) (n0 : lm_ML) (t : Nat) (m : lm_MI) (n : lm_ML) : Prop := (∀ r, r ≠ 203 → r ≠ 227 → (r < 270 ∨ 284 < r) → m r = m0 r) ∧ lm_fG m0 n0 m n ∧ ∀ t', t' < t → lm_hl3 m (270 + t') (lm_xS C K e t')
end LMRH
