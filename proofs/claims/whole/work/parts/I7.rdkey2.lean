/-! ===== dsaKeys of the reference: the small polynomials ===== -/
def lm_xg (C : lm_CX) (K : Nat → Int32) (e : Nat) : Nat → Bool
  | 0 => true
  | t + 1 => decide ((lm_xS C K e t).1 = 256) && lm_xg C K e t
theorem lm_xg_t {C : lm_CX} {K : Nat → Int32} {e : Nat} : ∀ t, lm_xg C K e t = true ↔ ∀ t', t' < t → (lm_xS C K e t').1 = 256 := by
  intro t
  induction t with
  | zero => exact ⟨fun _ t' h => absurd h (by omega), fun _ => rfl⟩
  | succ t ih =>
    show (decide ((lm_xS C K e t).1 = 256) && lm_xg C K e t) = true ↔ _
    rw [Bool.and_eq_true, decide_eq_true_iff, ih]
    constructor
    · rintro ⟨a, b⟩ t' ht'
      by_cases c : t' = t
      · subst c; exact a
      · exact b t' (by omega)
    · intro h
      exact ⟨h t (by omega), fun t' ht' => h t' (by omega)⟩
section LMRI
variable {sc : lm_H} {C : lm_CX} {d s : Nat} {m m0 : lm_MI} {n n0 : lm_ML} {x : lm_H × Nat × Nat}
theorem lm_l28a (hs : s ≤ 2) (h : lm_RD C s m n) : ∃ m' n', lm_I96 C (m 263) (lm_de s) m n (lm_dl s + lm_dk s) m' n' ∧ ∀ R, lm_rn sc (d + 6) lm_m28.2.2.2.2.1 (lm_reg lm_m28.2.2.2.2.2) (96, [(0, .ref 203), (2, .int (lm_z (lm_xg C (m 263) (lm_de s) (lm_dl s + lm_dk s)))), (3, .int (Int32.ofNat (lm_dl s + lm_dk s)))], []) (lm_w m' n' x) = some R → lm_rn sc (d + 6) lm_m28.2.2.2.2.1 (lm_reg lm_m28.2.2.2.2.2) (96, [(0, .ref 203), (2, .int (lm_z (lm_xg C (m 263) (lm_de s) 0))), (3, .int (Int32.ofNat 0))], []) (lm_w m n x) = some R := by
  have hkl := lm_dkl hs
  have hde := lm_de_2 hs
  refine lm_lp (sc := sc) (d := d + 6) (b := lm_dl s + lm_dk s) (hs := lm_m28.2.2.2.2.1) (code := lm_reg lm_m28.2.2.2.2.2) (x := x) (fr := fun t => (96, [(0, .ref 203), (2, .int (lm_z (lm_xg C (m 263) (lm_de s) t))), (3, .int (Int32.ofNat t))], [])) (I := fun t m' n' => lm_I96 C (m 263) (lm_de s) m n t m' n') (fun t ht m1 n1 ⟨g1, g2, g3⟩ => ?_) (lm_dl s + lm_dk s) 0 (by omega) m n ⟨fun _ _ _ _ => rfl, .rf, fun t' ht' => absurd ht' (by omega)⟩
  have e263 : m1 263 = m 263 := g1 263 (by decide) (by decide) (by decide)
  have h1 : lm_RD C s m1 n1 := h.keep g2.B (g1 221 (by decide) (by decide) (by decide)) (g1 268 (by decide) (by decide) (by decide))
  obtain ⟨m2, n2, c2, f2, gG, v2⟩ := lm_u87 (sc := sc) (d := d + 1) (m := m1) (n := n1) (x := x) (e := lm_de s) (p := 270 + t) (q := 263) (v := 256) (a := 32) (w := Int32.ofNat t) h1.1 hde h1.2.2.2.1 (lm_arY t (by omega)) (by omega) rfl (by decide) (by decide) (by decide)
  rw [e263, ← lm_xS_e] at c2 v2
  refine ⟨m2, n2, ⟨fun r r1 r2 r3 => by rw [f2 r r1 r2 (by omega), g1 r r1 r2 r3], g2.tr gG, fun t' ht' => ?_⟩, fun R K => lm_e28_96 ?_⟩
  · by_cases c0 : t' = t
    · subst c0
      exact v2
    · intro i hi
      rw [f2 (270 + t') (by omega) (by omega) (by omega)]
      exact g3 t' (by omega) i hi
  · have e1 : lm_xg C (m 263) (lm_de s) (t + 1) = (decide ((lm_xS C (m 263) (lm_de s) t).1 = 256) && lm_xg C (m 263) (lm_de s) t) := by
      rw [lm_xg]
    rw [e1] at K
    clear v2 e1
    generalize lm_xg C (m 263) (lm_de s) t = b at *
    generalize decide ((lm_xS C (m 263) (lm_de s) t).1 = 256) = b2 at *
    unfold lm_q28_96
    repeat (first
    | ((with_reducible apply lm_sI); exact rfl)
    | ((with_reducible apply lm_sR); exact rfl)
    | ((with_reducible apply lm_sS); exact rfl; exact rfl)
    | ((with_reducible apply lm_sL); exact rfl)
    | ((with_reducible apply lm_sP); exact rfl; exact rfl)
    | ((with_reducible apply lm_sPL); exact rfl; exact rfl)
    | ((with_reducible apply lm_sAA); exact rfl; exact rfl)
    | ((with_reducible apply lm_sA); (first | exact rfl | assumption); omega)
    | ((with_reducible apply lm_sJ); (first | exact rfl | assumption); omega)
    | ((with_reducible apply lm_sB); (first | exact rfl | assumption); omega)
    | ((with_reducible apply lm_wA); (first | exact rfl | assumption); omega)
    | ((with_reducible apply lm_wJ); (first | exact rfl | assumption); omega)
    | ((with_reducible apply lm_wB); (first | exact rfl | assumption); omega)
    | ((with_reducible apply lm_sAl); (first | exact rfl | assumption); omega)
    | ((with_reducible apply lm_iW); decide))
    simp only [Nat.reduceDiv, Nat.reduceMod]
    rw [h1.2.1, h1.2.2.1, lm_oo]
    refine lm_geF (by omega) (by omega) (by omega) ?_
    repeat (first
    | ((with_reducible apply lm_sI); exact rfl)
    | ((with_reducible apply lm_sR); exact rfl)
    | ((with_reducible apply lm_sS); exact rfl; exact rfl)
    | ((with_reducible apply lm_sL); exact rfl)
    | ((with_reducible apply lm_sP); exact rfl; exact rfl)
    | ((with_reducible apply lm_sPL); exact rfl; exact rfl)
    | ((with_reducible apply lm_sAA); exact rfl; exact rfl)
    | ((with_reducible apply lm_sA); (first | exact rfl | assumption); omega)
    | ((with_reducible apply lm_sJ); (first | exact rfl | assumption); omega)
    | ((with_reducible apply lm_sB); (first | exact rfl | assumption); omega)
    | ((with_reducible apply lm_wA); (first | exact rfl | assumption); omega)
    | ((with_reducible apply lm_wJ); (first | exact rfl | assumption); omega)
    | ((with_reducible apply lm_wB); (first | exact rfl | assumption); omega)
    | ((with_reducible apply lm_sAl); (first | exact rfl | assumption); omega)
    | ((with_reducible apply lm_iW); decide))
    refine lm_sAA rfl (lm_roY t (by omega)) ?_
    rw [lm_K32]
    repeat (first
    | ((with_reducible apply lm_sI); exact rfl)
    | ((with_reducible apply lm_sR); exact rfl)
    | ((with_reducible apply lm_sS); exact rfl; exact rfl)
    | ((with_reducible apply lm_sL); exact rfl)
    | ((with_reducible apply lm_sP); exact rfl; exact rfl)
    | ((with_reducible apply lm_sPL); exact rfl; exact rfl)
    | ((with_reducible apply lm_sAA); exact rfl; exact rfl)
    | ((with_reducible apply lm_sA); (first | exact rfl | assumption); omega)
    | ((with_reducible apply lm_sJ); (first | exact rfl | assumption); omega)
    | ((with_reducible apply lm_sB); (first | exact rfl | assumption); omega)
    | ((with_reducible apply lm_wA); (first | exact rfl | assumption); omega)
    | ((with_reducible apply lm_wJ); (first | exact rfl | assumption); omega)
    | ((with_reducible apply lm_wB); (first | exact rfl | assumption); omega)
    | ((with_reducible apply lm_sAl); (first | exact rfl | assumption); omega)
    | ((with_reducible apply lm_iW); decide))
    refine lm_cI c2 ?_
    have fin : ∀ b3 : Bool, b3 = (b2 && b) → lm_rn sc (d + 6) lm_m28.2.2.2.2.1 (lm_reg lm_m28.2.2.2.2.2) (138, [(0, .ref 203), (3, .int (Int32.ofNat t))], [.int (lm_z b3)]) (lm_w m2 n2 x) = some R := by
      intro b3 hb
      subst hb
      refine lm_e28_138 ?_
      unfold lm_q28_138
      rw [lm_K1, lm_oo]
      exact K
    cases b2 with
    | false =>
      refine lm_iT (show (0 : Int32) = 0 by decide) (lm_e28_137 ?_)
      unfold lm_q28_137
      exact fin false rfl
    | true =>
      refine lm_iF (show ¬ (1 : Int32) = 0 by decide) ?_
      cases b with
      | false =>
        refine lm_iT (show (0 : Int32) = 0 by decide) (lm_e28_137 ?_)
        unfold lm_q28_137
        exact fin false rfl
      | true =>
        refine lm_iF (show ¬ (1 : Int32) = 0 by decide) ?_
        exact fin true rfl
end LMRI
