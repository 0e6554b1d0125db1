/-! ===== the keys of Kem: what they are; the class ===== -/
theorem lm_gn_ext {s s' : Nat → Int32} {a a' : Nat} {w : Int32} (h : ∀ i, i < 32 → lm_b8 (s (a + i)) = lm_b8 (s' (a' + i))) : lm_gn s a w = lm_gn s' a' w := by
  funext i
  unfold lm_gn
  by_cases c : i < 32
  · rw [if_pos c, if_pos c, h i c]
  · rw [if_neg c, if_neg c]
theorem ln_gs_ext {s s' : Nat → Int32} {a a' : Nat} {w1 w2 : Int32} (h : ∀ i, i < 32 → lm_b8 (s (a + i)) = lm_b8 (s' (a' + i))) : ln_gs s a w1 w2 = ln_gs s' a' w1 w2 := by
  funext i
  unfold ln_gs
  by_cases c : i < 32
  · rw [if_pos c, if_pos c, h i c]
  · rw [if_neg c, if_neg c]
/-- noise, and its transform -/
def lm_kno (C : lm_CX) (P : Nat → Int32) (a e num : Nat) : Nat → Int := lm_cb (ln_bt (lm_Hm C 12 (lm_gn P a (Int32.ofNat num)) 33)) e
def lm_kS (C : lm_CX) (P : Nat → Int32) (a e num : Nat) (c : Nat) : Int := lm_nt (lm_kno C P a e num) c % 3329
theorem lm_m3329 (a : Int) : 0 ≤ a % 3329 ∧ a % 3329 < 3329 := ⟨Int.emod_nonneg a (by decide), Int.emod_lt_of_pos a (by decide)⟩
theorem lm_kS_rg {C : lm_CX} {P : Nat → Int32} {a e num : Nat} : lm_rg 3328 (lm_kS C P a e num) := fun c _ => by
  have := lm_m3329 (lm_nt (lm_kno C P a e num) c)
  show 0 ≤ lm_nt (lm_kno C P a e num) c % 3329 ∧ lm_nt (lm_kno C P a e num) c % 3329 ≤ 3328
  omega
def lm_kAi (C : lm_CX) (P : Nat → Int32) (a w1 w2 : Nat) (c : Nat) : Int := ((lm_kA C P a w1 w2).2 c : Int)
/-- row i of the public key -/
def ln_kT (C : lm_CX) (P : Nat → Int32) (e k i : Nat) (c : Nat) : Int := lm_apc (lm_kS C P 32 e (k + i)) (fun j => lm_kAi C P 0 j i) (fun j => lm_kS C P 32 e j) k c % 3329
/-- the bytes of polynomials of d bits -/
def lm_pkB (F : Nat → Nat → Int) (d j : Nat) : Nat := ln_bv (lm_ts (fun c => (F (j / (32 * d)) c).toNat) d) (8 * (j % (32 * d))) 8
def lm_pub (C : lm_CX) (P : Nat → Int32) (e k j : Nat) : Nat := if j < 384 * k then lm_pkB (ln_kT C P e k) 12 j else lm_yb (P (j - 384 * k))
def ln_gp (f : Nat → Nat) (t : Nat) : Int32 := lm_b8 (Int32.ofNat (f t))
def lm_sec (C : lm_CX) (P R : Nat → Int32) (e k j : Nat) : Nat := if j < 384 * k then lm_pkB (fun i => lm_kS C P 32 e i) 12 j else if j < 768 * k + 32 then lm_pub C P e k (j - 384 * k) else if j < 768 * k + 64 then lm_yb (lm_Hm C 8 (ln_gp (lm_pub C P e k)) (384 * k + 32) (j - (768 * k + 32))) else lm_yb (R (32 + (j - (768 * k + 64))))
theorem lm_pkB_lt {F : Nat → Nat → Int} {d j : Nat} : lm_pkB F d j < 256 := lm_bv_lt
theorem lm_pub_lt {C : lm_CX} {P : Nat → Int32} {e k j : Nat} : lm_pub C P e k j < 256 := by
  unfold lm_pub
  split
  · exact lm_pkB_lt
  · exact lm_yb_lt _
theorem lm_gp_yb {f : Nat → Nat} {t : Nat} {v : Int32} (h : lm_yb v = f t) (hf : f t < 256) : lm_b8 v = ln_gp f t := by
  refine lm_b8_eq ?_
  rw [h, lm_yb_n (by omega), Nat.mod_eq_of_lt hf]
/-- the message of the first hash -/
def ln_g33 (R : Nat → Int32) (k : Nat) (i : Nat) : Int32 := if i < 32 then lm_b8 (R i) else lm_b8 (Int32.ofNat k)
theorem lm_apc_bnd {S : Nat → Int} {F H : Nat → Nat → Int} (hS : lm_bnd 3329 S) (hF : ∀ j, lm_bnd 4096 (F j)) (hH : ∀ j, lm_bnd 4096 (H j)) : ∀ j : Nat, lm_bnd (3329 + 40000000 * j) (lm_apc S F H j) := by
  intro j
  induction j with
  | zero => intro c hc; have := hS c hc; show -(3329 + 40000000 * ((0 : Nat) : Int)) ≤ S c ∧ S c ≤ 3329 + 40000000 * ((0 : Nat) : Int); omega
  | succ j ih =>
    intro c hc
    have h0 := ih c hc
    show -(3329 + 40000000 * ((j + 1 : Nat) : Int)) ≤ lm_ap (lm_apc S F H j) (F j) (H j) c ∧ lm_ap (lm_apc S F H j) (F j) (H j) c ≤ 3329 + 40000000 * ((j + 1 : Nat) : Int)
    unfold lm_ap
    by_cases e : c % 2 = 0
    · rw [if_pos e]
      have h1 := lm_mulb (hF j c hc) (hH j c hc)
      have h2 := lm_tmb (a := F j (c + 1) * H j (c + 1)) (show (0 : Int) < 3329 by decide)
      have h3 : 0 ≤ lm_gk (c / 2) ∧ lm_gk (c / 2) ≤ 3328 := lm_pk_b (2 * lm_br 7 (c / 2) + 1)
      have h4 := lm_mulb (A := 3329) (B := 3328) (a := (F j (c + 1) * H j (c + 1)).tmod 3329) (b := lm_gk (c / 2)) ⟨by omega, by omega⟩ ⟨by omega, h3.2⟩
      omega
    · rw [if_neg e]
      have h1 := lm_mulb (hF j (c - 1) (by omega)) (hH j c hc)
      have h2 := lm_mulb (hF j c hc) (hH j (c - 1) (by omega))
      omega
/-- tables of the class's Kem -/
def lm_Ktb (m : lm_MI) : Prop := (∀ k, k < 128 → m 45 k = Int32.ofInt (lm_zk k)) ∧ ∀ k, k < 128 → m 46 k = Int32.ofInt (lm_gk k)
set_option maxRecDepth 100000 in
theorem lm_km45 : ∀ k, k < 128 → lm_km (fun _ _ => 0) 256 45 k = Int32.ofNat (17 ^ lm_br 7 k % 3329) ∧ lm_km (fun _ _ => 0) 256 46 k = Int32.ofNat (17 ^ (2 * lm_br 7 k + 1) % 3329) := by decide +kernel
theorem lm_Con.ktb {m : lm_MI} {n : lm_ML} (h : lm_Con m n) : lm_Ktb m := by
  have key : ∀ (m1 m2 : lm_MI), (∀ j, m1 45 j = m2 45 j ∧ m1 46 j = m2 46 j) → ∀ t j, lm_km m1 t 45 j = lm_km m2 t 45 j ∧ lm_km m1 t 46 j = lm_km m2 t 46 j := by
    intro m1 m2 h t
    induction t with
    | zero => exact h
    | succ t ih =>
      intro j
      unfold lm_km
      cases Nat.beq (t % 2) 1 <;> cases Nat.blt t 128 <;> simp only [cond_true, cond_false]
      · exact ih j
      · refine ⟨?_, ?_⟩
        · unfold lm_u; rw [(ih j).1]
        · rw [lm_u_row (by decide), lm_u_row (by decide)]; exact (ih j).2
      · refine ⟨?_, ?_⟩
        · rw [lm_u_row (by decide), lm_u_row (by decide)]; exact (ih j).1
        · unfold lm_u; rw [(ih j).2]
      · refine ⟨?_, ?_⟩
        · unfold lm_u; rw [(ih j).1]
        · unfold lm_u; rw [(ih j).2]
  have e : ∀ j, lm_m1s 45 j = lm_km (fun _ _ => 0) 256 45 j ∧ lm_m1s 46 j = lm_km (fun _ _ => 0) 256 46 j := fun j => by
    unfold lm_m1s
    rw [lm_u_row (by decide), lm_u_row (by decide), lm_dm_row (by decide), lm_u_row (by decide), lm_u_row (by decide), lm_dm_row (by decide)]
    exact key _ _ (fun j => by rw [lm_u_row (by decide), lm_u_row (by decide), lm_u_row (by decide), lm_u_row (by decide), lm_u_row (by decide), lm_u_row (by decide)]; exact ⟨rfl, rfl⟩) 256 j
  refine ⟨fun k hk => ?_, fun k hk => ?_⟩
  · rw [h.1, (e k).1, (lm_km45 k hk).1, lm_oN]
    rfl
  · rw [h.2.1, (e k).2, (lm_km45 k hk).2, lm_oN]
    rfl
