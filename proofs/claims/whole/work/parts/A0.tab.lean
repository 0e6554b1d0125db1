/-! ===== the tables of class and reference are the same ===== -/
def lm_p80 : List Nat := [2, 3, 5, 7, 11, 13, 17, 19, 23, 29, 31, 37, 41, 43, 47, 53, 59, 61, 67, 71, 73, 79, 83, 89, 97, 101, 103, 107, 109, 113, 127, 131, 137, 139, 149, 151, 157, 163, 167, 173, 179, 181, 191, 193, 197, 199, 211, 223, 227, 229, 233, 239, 241, 251, 257, 263, 269, 271, 277, 281, 283, 293, 307, 311, 313, 317, 331, 337, 347, 349, 353, 359, 367, 373, 379, 383, 389, 397, 401, 409]
theorem lm_p80_ok : ∀ t, t < 80 → (2 ≤ lm_p80.getD t 0 ∧ lm_p80.getD t 0 < 410) ∧ lm_prim (lm_p80.getD t 0) = true ∧ lm_cn (lm_p80.getD t 0) = t := by decide +kernel
theorem lm_cub_ok : ∀ t, t < 80 → Int64.ofNat (lm_rt (lm_p80.getD t 0) 3) = (lm_lst 5).getD t 0 := by decide +kernel
theorem lm_sqr_ok : ∀ t, t < 16 → Int64.ofNat (lm_rt (lm_p80.getD t 0) 2) = (lm_lst 2).getD t 0 := by decide +kernel
theorem lm_trn_ok : ∀ i, i < 25 → lm_tm lm_m1s 24 221 i = lm_trt i := by
  have e : ∀ m : lm_MI, m 221 0 = 0 → ∀ i, i < 25 → lm_tm m 24 221 i = lm_trt i := by
    intro m hm i hi
    simp only [lm_tm, lm_rd, true_and]
    match i, hi with
    | 0, _ => exact hm
    | 1, _ => rfl
    | 2, _ => rfl
    | 3, _ => rfl
    | 4, _ => rfl
    | 5, _ => rfl
    | 6, _ => rfl
    | 7, _ => rfl
    | 8, _ => rfl
    | 9, _ => rfl
    | 10, _ => rfl
    | 11, _ => rfl
    | 12, _ => rfl
    | 13, _ => rfl
    | 14, _ => rfl
    | 15, _ => rfl
    | 16, _ => rfl
    | 17, _ => rfl
    | 18, _ => rfl
    | 19, _ => rfl
    | 20, _ => rfl
    | 21, _ => rfl
    | 22, _ => rfl
    | 23, _ => rfl
    | 24, _ => rfl
    | i + 25, h => exact absurd h (by omega)
  exact e lm_m1s (by rw [lm_m1s_row (by decide) (by decide) (by decide) (by decide) (by decide) (by decide) (by decide)])
theorem lm_rnd_ok : ∀ t, t < 24 → lm_rq lm_n1s 24 222 t = (lm_lst 6).getD t 0 := by decide +kernel
