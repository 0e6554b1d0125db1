/-! ===== numbers, branches ===== -/
theorem lm_K0 : Int32.ofInt 0 = Int32.ofNat 0 := lm_ofI 0
theorem lm_K1 : Int32.ofInt 1 = Int32.ofNat 1 := lm_ofI 1
theorem lm_K2 : Int32.ofInt 2 = Int32.ofNat 2 := lm_ofI 2
theorem lm_K3 : Int32.ofInt 3 = Int32.ofNat 3 := lm_ofI 3
theorem lm_K4 : Int32.ofInt 4 = Int32.ofNat 4 := lm_ofI 4
theorem lm_K5 : Int32.ofInt 5 = Int32.ofNat 5 := lm_ofI 5
theorem lm_K6 : Int32.ofInt 6 = Int32.ofNat 6 := lm_ofI 6
theorem lm_K7 : Int32.ofInt 7 = Int32.ofNat 7 := lm_ofI 7
theorem lm_K8 : Int32.ofInt 8 = Int32.ofNat 8 := lm_ofI 8
theorem lm_K9 : Int32.ofInt 9 = Int32.ofNat 9 := lm_ofI 9
theorem lm_K10 : Int32.ofInt 10 = Int32.ofNat 10 := lm_ofI 10
theorem lm_K11 : Int32.ofInt 11 = Int32.ofNat 11 := lm_ofI 11
theorem lm_K12 : Int32.ofInt 12 = Int32.ofNat 12 := lm_ofI 12
theorem lm_K13 : Int32.ofInt 13 = Int32.ofNat 13 := lm_ofI 13
theorem lm_K14 : Int32.ofInt 14 = Int32.ofNat 14 := lm_ofI 14
theorem lm_K15 : Int32.ofInt 15 = Int32.ofNat 15 := lm_ofI 15
theorem lm_K16 : Int32.ofInt 16 = Int32.ofNat 16 := lm_ofI 16
theorem lm_K17 : Int32.ofInt 17 = Int32.ofNat 17 := lm_ofI 17
theorem lm_K18 : Int32.ofInt 18 = Int32.ofNat 18 := lm_ofI 18
theorem lm_K19 : Int32.ofInt 19 = Int32.ofNat 19 := lm_ofI 19
theorem lm_K20 : Int32.ofInt 20 = Int32.ofNat 20 := lm_ofI 20
theorem lm_K21 : Int32.ofInt 21 = Int32.ofNat 21 := lm_ofI 21
theorem lm_K22 : Int32.ofInt 22 = Int32.ofNat 22 := lm_ofI 22
theorem lm_K23 : Int32.ofInt 23 = Int32.ofNat 23 := lm_ofI 23
theorem lm_K24 : Int32.ofInt 24 = Int32.ofNat 24 := lm_ofI 24
theorem lm_K25 : Int32.ofInt 25 = Int32.ofNat 25 := lm_ofI 25
theorem lm_K27 : Int32.ofInt 27 = Int32.ofNat 27 := lm_ofI 27
theorem lm_K28 : Int32.ofInt 28 = Int32.ofNat 28 := lm_ofI 28
theorem lm_K30 : Int32.ofInt 30 = Int32.ofNat 30 := lm_ofI 30
theorem lm_K31 : Int32.ofInt 31 = Int32.ofNat 31 := lm_ofI 31
theorem lm_K32 : Int32.ofInt 32 = Int32.ofNat 32 := lm_ofI 32
theorem lm_K33 : Int32.ofInt 33 = Int32.ofNat 33 := lm_ofI 33
theorem lm_K34 : Int32.ofInt 34 = Int32.ofNat 34 := lm_ofI 34
theorem lm_K35 : Int32.ofInt 35 = Int32.ofNat 35 := lm_ofI 35
theorem lm_K36 : Int32.ofInt 36 = Int32.ofNat 36 := lm_ofI 36
theorem lm_K38 : Int32.ofInt 38 = Int32.ofNat 38 := lm_ofI 38
theorem lm_K39 : Int32.ofInt 39 = Int32.ofNat 39 := lm_ofI 39
theorem lm_K40 : Int32.ofInt 40 = Int32.ofNat 40 := lm_ofI 40
theorem lm_K41 : Int32.ofInt 41 = Int32.ofNat 41 := lm_ofI 41
theorem lm_K43 : Int32.ofInt 43 = Int32.ofNat 43 := lm_ofI 43
theorem lm_K44 : Int32.ofInt 44 = Int32.ofNat 44 := lm_ofI 44
theorem lm_K45 : Int32.ofInt 45 = Int32.ofNat 45 := lm_ofI 45
theorem lm_K46 : Int32.ofInt 46 = Int32.ofNat 46 := lm_ofI 46
theorem lm_K47 : Int32.ofInt 47 = Int32.ofNat 47 := lm_ofI 47
theorem lm_K48 : Int32.ofInt 48 = Int32.ofNat 48 := lm_ofI 48
theorem lm_K49 : Int32.ofInt 49 = Int32.ofNat 49 := lm_ofI 49
theorem lm_K50 : Int32.ofInt 50 = Int32.ofNat 50 := lm_ofI 50
theorem lm_K52 : Int32.ofInt 52 = Int32.ofNat 52 := lm_ofI 52
theorem lm_K53 : Int32.ofInt 53 = Int32.ofNat 53 := lm_ofI 53
theorem lm_K54 : Int32.ofInt 54 = Int32.ofNat 54 := lm_ofI 54
theorem lm_K55 : Int32.ofInt 55 = Int32.ofNat 55 := lm_ofI 55
theorem lm_K56 : Int32.ofInt 56 = Int32.ofNat 56 := lm_ofI 56
theorem lm_K60 : Int32.ofInt 60 = Int32.ofNat 60 := lm_ofI 60
theorem lm_K61 : Int32.ofInt 61 = Int32.ofNat 61 := lm_ofI 61
theorem lm_K62 : Int32.ofInt 62 = Int32.ofNat 62 := lm_ofI 62
theorem lm_K63 : Int32.ofInt 63 = Int32.ofNat 63 := lm_ofI 63
theorem lm_K64 : Int32.ofInt 64 = Int32.ofNat 64 := lm_ofI 64
theorem lm_K65 : Int32.ofInt 65 = Int32.ofNat 65 := lm_ofI 65
theorem lm_K66 : Int32.ofInt 66 = Int32.ofNat 66 := lm_ofI 66
theorem lm_K67 : Int32.ofInt 67 = Int32.ofNat 67 := lm_ofI 67
theorem lm_K68 : Int32.ofInt 68 = Int32.ofNat 68 := lm_ofI 68
theorem lm_K72 : Int32.ofInt 72 = Int32.ofNat 72 := lm_ofI 72
theorem lm_K75 : Int32.ofInt 75 = Int32.ofNat 75 := lm_ofI 75
theorem lm_K80 : Int32.ofInt 80 = Int32.ofNat 80 := lm_ofI 80
theorem lm_K83 : Int32.ofInt 83 = Int32.ofNat 83 := lm_ofI 83
theorem lm_K84 : Int32.ofInt 84 = Int32.ofNat 84 := lm_ofI 84
theorem lm_K92 : Int32.ofInt 92 = Int32.ofNat 92 := lm_ofI 92
theorem lm_K96 : Int32.ofInt 96 = Int32.ofNat 96 := lm_ofI 96
theorem lm_K101 : Int32.ofInt 101 = Int32.ofNat 101 := lm_ofI 101
theorem lm_K106 : Int32.ofInt 106 = Int32.ofNat 106 := lm_ofI 106
theorem lm_K113 : Int32.ofInt 113 = Int32.ofNat 113 := lm_ofI 113
theorem lm_K121 : Int32.ofInt 121 = Int32.ofNat 121 := lm_ofI 121
theorem lm_K127 : Int32.ofInt 127 = Int32.ofNat 127 := lm_ofI 127
theorem lm_K128 : Int32.ofInt 128 = Int32.ofNat 128 := lm_ofI 128
theorem lm_K129 : Int32.ofInt 129 = Int32.ofNat 129 := lm_ofI 129
theorem lm_K134 : Int32.ofInt 134 = Int32.ofNat 134 := lm_ofI 134
theorem lm_K136 : Int32.ofInt 136 = Int32.ofNat 136 := lm_ofI 136
theorem lm_K168 : Int32.ofInt 168 = Int32.ofNat 168 := lm_ofI 168
theorem lm_K192 : Int32.ofInt 192 = Int32.ofNat 192 := lm_ofI 192
theorem lm_K200 : Int32.ofInt 200 = Int32.ofNat 200 := lm_ofI 200
theorem lm_K255 : Int32.ofInt 255 = Int32.ofNat 255 := lm_ofI 255
theorem lm_K256 : Int32.ofInt 256 = Int32.ofNat 256 := lm_ofI 256
theorem lm_K272 : Int32.ofInt 272 = Int32.ofNat 272 := lm_ofI 272
theorem lm_K280 : Int32.ofInt 280 = Int32.ofNat 280 := lm_ofI 280
theorem lm_K298 : Int32.ofInt 298 = Int32.ofNat 298 := lm_ofI 298
theorem lm_K320 : Int32.ofInt 320 = Int32.ofNat 320 := lm_ofI 320
theorem lm_K332 : Int32.ofInt 332 = Int32.ofNat 332 := lm_ofI 332
theorem lm_K384 : Int32.ofInt 384 = Int32.ofNat 384 := lm_ofI 384
theorem lm_K416 : Int32.ofInt 416 = Int32.ofNat 416 := lm_ofI 416
theorem lm_K480 : Int32.ofInt 480 = Int32.ofNat 480 := lm_ofI 480
theorem lm_K481 : Int32.ofInt 481 = Int32.ofNat 481 := lm_ofI 481
theorem lm_K511 : Int32.ofInt 511 = Int32.ofNat 511 := lm_ofI 511
theorem lm_K512 : Int32.ofInt 512 = Int32.ofNat 512 := lm_ofI 512
theorem lm_K640 : Int32.ofInt 640 = Int32.ofNat 640 := lm_ofI 640
theorem lm_K768 : Int32.ofInt 768 = Int32.ofNat 768 := lm_ofI 768
theorem lm_K814 : Int32.ofInt 814 = Int32.ofNat 814 := lm_ofI 814
theorem lm_K962 : Int32.ofInt 962 = Int32.ofNat 962 := lm_ofI 962
theorem lm_K1568 : Int32.ofInt 1568 = Int32.ofNat 1568 := lm_ofI 1568
theorem lm_K2048 : Int32.ofInt 2048 = Int32.ofNat 2048 := lm_ofI 2048
theorem lm_K2144 : Int32.ofInt 2144 = Int32.ofNat 2144 := lm_ofI 2144
theorem lm_K3072 : Int32.ofInt 3072 = Int32.ofNat 3072 := lm_ofI 3072
theorem lm_K3303 : Int32.ofInt 3303 = Int32.ofNat 3303 := lm_ofI 3303
theorem lm_K3329 : Int32.ofInt 3329 = Int32.ofNat 3329 := lm_ofI 3329
theorem lm_K4096 : Int32.ofInt 4096 = Int32.ofNat 4096 := lm_ofI 4096
theorem lm_K6658 : Int32.ofInt 6658 = Int32.ofNat 6658 := lm_ofI 6658
theorem lm_K8192 : Int32.ofInt 8192 = Int32.ofNat 8192 := lm_ofI 8192
theorem lm_K16384 : Int32.ofInt 16384 = Int32.ofNat 16384 := lm_ofI 16384
theorem lm_K65280 : Int32.ofInt 65280 = Int32.ofNat 65280 := lm_ofI 65280
theorem lm_K65536 : Int32.ofInt 65536 = Int32.ofNat 65536 := lm_ofI 65536
theorem lm_K95232 : Int32.ofInt 95232 = Int32.ofNat 95232 := lm_ofI 95232
theorem lm_K131072 : Int32.ofInt 131072 = Int32.ofNat 131072 := lm_ofI 131072
theorem lm_K261888 : Int32.ofInt 261888 = Int32.ofNat 261888 := lm_ofI 261888
theorem lm_K524288 : Int32.ofInt 524288 = Int32.ofNat 524288 := lm_ofI 524288
theorem lm_K4190208 : Int32.ofInt 4190208 = Int32.ofNat 4190208 := lm_ofI 4190208
theorem lm_K8380416 : Int32.ofInt 8380416 = Int32.ofNat 8380416 := lm_ofI 8380416
theorem lm_K8380417 : Int32.ofInt 8380417 = Int32.ofNat 8380417 := lm_ofI 8380417
theorem lm_K252645135 : Int32.ofInt 252645135 = Int32.ofNat 252645135 := lm_ofI 252645135
theorem lm_K858993459 : Int32.ofInt 858993459 = Int32.ofNat 858993459 := lm_ofI 858993459
theorem lm_K1431655765 : Int32.ofInt 1431655765 = Int32.ofNat 1431655765 := lm_ofI 1431655765
theorem lm_K2147483647 : Int32.ofInt 2147483647 = Int32.ofNat 2147483647 := lm_ofI 2147483647
section LMNU
variable {σ : lm_S} {A B : lm_M lm_R} {r : Option (Except Nat lm_R × lm_S)} {a b : Nat}
theorem lm_eq32 {a b : Nat} (ha : a ≤ 2000000) (hb : b ≤ 2000000) : Int32.ofNat a = Int32.ofNat b ↔ a = b := by
  refine ⟨fun h => ?_, fun h => by rw [h]⟩
  have h1 := (lm_le32 ha hb).mp (by rw [h]; exact Int32.le_refl _)
  have h2 := (lm_le32 hb ha).mp (by rw [h]; exact Int32.le_refl _)
  omega
theorem lm_c_eq (ha : a ≤ 2000000) (hb : b ≤ 2000000) : lm_cmp .eq (Int32.ofNat a) (Int32.ofNat b) ↔ a = b := lm_eq32 ha hb
theorem lm_eqT (ha : a ≤ 2000000) (hb : b ≤ 2000000) (h : a = b) (k : A σ = r) : lm_if .eq (Int32.ofNat a) (Int32.ofNat b) A B σ = r := lm_iT ((lm_c_eq ha hb).mpr h) k
theorem lm_eqF (ha : a ≤ 2000000) (hb : b ≤ 2000000) (h : ¬ (a = b)) (k : B σ = r) : lm_if .eq (Int32.ofNat a) (Int32.ofNat b) A B σ = r := lm_iF (fun g => h ((lm_c_eq ha hb).mp g)) k
theorem lm_c_ne (ha : a ≤ 2000000) (hb : b ≤ 2000000) : lm_cmp .ne (Int32.ofNat a) (Int32.ofNat b) ↔ a ≠ b := not_congr (lm_eq32 ha hb)
theorem lm_neT (ha : a ≤ 2000000) (hb : b ≤ 2000000) (h : a ≠ b) (k : A σ = r) : lm_if .ne (Int32.ofNat a) (Int32.ofNat b) A B σ = r := lm_iT ((lm_c_ne ha hb).mpr h) k
theorem lm_neF (ha : a ≤ 2000000) (hb : b ≤ 2000000) (h : ¬ (a ≠ b)) (k : B σ = r) : lm_if .ne (Int32.ofNat a) (Int32.ofNat b) A B σ = r := lm_iF (fun g => h ((lm_c_ne ha hb).mp g)) k
theorem lm_c_lt (ha : a ≤ 2000000) (hb : b ≤ 2000000) : lm_cmp .lt (Int32.ofNat a) (Int32.ofNat b) ↔ a < b := lm_lt32 ha hb
theorem lm_ltT (ha : a ≤ 2000000) (hb : b ≤ 2000000) (h : a < b) (k : A σ = r) : lm_if .lt (Int32.ofNat a) (Int32.ofNat b) A B σ = r := lm_iT ((lm_c_lt ha hb).mpr h) k
theorem lm_ltF (ha : a ≤ 2000000) (hb : b ≤ 2000000) (h : ¬ (a < b)) (k : B σ = r) : lm_if .lt (Int32.ofNat a) (Int32.ofNat b) A B σ = r := lm_iF (fun g => h ((lm_c_lt ha hb).mp g)) k
theorem lm_c_ge (ha : a ≤ 2000000) (hb : b ≤ 2000000) : lm_cmp .ge (Int32.ofNat a) (Int32.ofNat b) ↔ b ≤ a := lm_le32 hb ha
theorem lm_geT (ha : a ≤ 2000000) (hb : b ≤ 2000000) (h : b ≤ a) (k : A σ = r) : lm_if .ge (Int32.ofNat a) (Int32.ofNat b) A B σ = r := lm_iT ((lm_c_ge ha hb).mpr h) k
theorem lm_geF (ha : a ≤ 2000000) (hb : b ≤ 2000000) (h : ¬ (b ≤ a)) (k : B σ = r) : lm_if .ge (Int32.ofNat a) (Int32.ofNat b) A B σ = r := lm_iF (fun g => h ((lm_c_ge ha hb).mp g)) k
theorem lm_c_gt (ha : a ≤ 2000000) (hb : b ≤ 2000000) : lm_cmp .gt (Int32.ofNat a) (Int32.ofNat b) ↔ b < a := lm_lt32 hb ha
theorem lm_gtT (ha : a ≤ 2000000) (hb : b ≤ 2000000) (h : b < a) (k : A σ = r) : lm_if .gt (Int32.ofNat a) (Int32.ofNat b) A B σ = r := lm_iT ((lm_c_gt ha hb).mpr h) k
theorem lm_gtF (ha : a ≤ 2000000) (hb : b ≤ 2000000) (h : ¬ (b < a)) (k : B σ = r) : lm_if .gt (Int32.ofNat a) (Int32.ofNat b) A B σ = r := lm_iF (fun g => h ((lm_c_gt ha hb).mp g)) k
theorem lm_c_le (ha : a ≤ 2000000) (hb : b ≤ 2000000) : lm_cmp .le (Int32.ofNat a) (Int32.ofNat b) ↔ a ≤ b := lm_le32 ha hb
theorem lm_leT (ha : a ≤ 2000000) (hb : b ≤ 2000000) (h : a ≤ b) (k : A σ = r) : lm_if .le (Int32.ofNat a) (Int32.ofNat b) A B σ = r := lm_iT ((lm_c_le ha hb).mpr h) k
theorem lm_leF (ha : a ≤ 2000000) (hb : b ≤ 2000000) (h : ¬ (a ≤ b)) (k : B σ = r) : lm_if .le (Int32.ofNat a) (Int32.ofNat b) A B σ = r := lm_iF (fun g => h ((lm_c_le ha hb).mp g)) k
end LMNU
/-- numbers laid from a to b into q -/
def lm_fil {α : Type} (m : Nat → Nat → α) (q a b : Nat) (g : Nat → α) : Nat → Nat → α := fun q' i => if q' = q ∧ a ≤ i ∧ i < b then g i else m q' i
section LMFL
variable {α : Type} {m : Nat → Nat → α} {q a b : Nat} {g : Nat → α}
theorem lm_fl_nil : lm_fil m q a a g = m := by
  funext q' i
  exact if_neg fun h => by omega
theorem lm_fl_step (h : a ≤ b) : lm_u (lm_fil m q a b g) q b (g b) = lm_fil m q a (b + 1) g := by
  funext q' i
  unfold lm_u lm_fil
  by_cases h1 : q' = q ∧ i = b
  · obtain ⟨h1, h2⟩ := h1
    subst h1 h2
    rw [if_pos ⟨rfl, rfl⟩, if_pos ⟨rfl, h, by omega⟩]
  · rw [if_neg h1]
    by_cases h2 : q' = q ∧ a ≤ i ∧ i < b
    · rw [if_pos h2, if_pos ⟨h2.1, h2.2.1, by omega⟩]
    · rw [if_neg h2, if_neg (fun h3 => h2 ⟨h3.1, h3.2.1, by
        have : i ≠ b := fun h4 => h1 ⟨h3.1, h4⟩
        omega⟩)]
theorem lm_fl_row {p : Nat} (h : p ≠ q) : lm_fil m q a b g p = m p := by
  funext i
  exact if_neg fun g => h g.1
theorem lm_fl_in {i : Nat} (h : a ≤ i ∧ i < b) : lm_fil m q a b g q i = g i := if_pos ⟨rfl, h⟩
theorem lm_fl_out {i : Nat} (h : ¬ (a ≤ i ∧ i < b)) : lm_fil m q a b g q i = m q i := if_neg fun g => h g.2
theorem lm_cp_fl {p n : Nat} : lm_cp m q b p a n = lm_fil m q b (b + n) (fun i => m p (i - b + a)) := rfl
end LMFL
theorem lm_b8b {x : Int32} : lm_b8 (lm_b8 x) = lm_b8 x := lm_b8b8 x
/-! the table at the slots -/
theorem lm_fpL {i : Nat} (h : i < 8) : lm_fdp 404 (26 + 2 * i) = some 0 := by
  match i, h with
  | 0, _ => rfl
  | 1, _ => rfl
  | 2, _ => rfl
  | 3, _ => rfl
  | 4, _ => rfl
  | 5, _ => rfl
  | 6, _ => rfl
  | 7, _ => rfl
theorem lm_fpB {i : Nat} (h : i < 8) : lm_fdp 402 (26 + 2 * i) = some (27 + 2 * i + 5) := by
  match i, h with
  | 0, _ => rfl
  | 1, _ => rfl
  | 2, _ => rfl
  | 3, _ => rfl
  | 4, _ => rfl
  | 5, _ => rfl
  | 6, _ => rfl
  | 7, _ => rfl
theorem lm_ocO {i : Nat} (h : i < 8) : lm_oc (26 + 2 * i) = some 1 := by
  match i, h with
  | 0, _ => rfl
  | 1, _ => rfl
  | 2, _ => rfl
  | 3, _ => rfl
  | 4, _ => rfl
  | 5, _ => rfl
  | 6, _ => rfl
  | 7, _ => rfl
theorem lm_arB {i : Nat} (h : i < 8) : lm_ar (27 + 2 * i) = some (1, 65536) := by
  match i, h with
  | 0, _ => rfl
  | 1, _ => rfl
  | 2, _ => rfl
  | 3, _ => rfl
  | 4, _ => rfl
  | 5, _ => rfl
  | 6, _ => rfl
  | 7, _ => rfl
set_option maxRecDepth 10000 in
theorem lm_arM {i : Nat} (h : i < 8) : lm_ar (206 + i) = some (1, 65536) := by
  match i, h with
  | 0, _ => rfl
  | 1, _ => rfl
  | 2, _ => rfl
  | 3, _ => rfl
  | 4, _ => rfl
  | 5, _ => rfl
  | 6, _ => rfl
  | 7, _ => rfl
theorem lm_roO {i : Nat} (h : i < 8) : [27, 29, 31, 33, 35, 37, 39, 41][i]? = some (26 + 2 * i + 1) := by
  match i, h with
  | 0, _ => rfl
  | 1, _ => rfl
  | 2, _ => rfl
  | 3, _ => rfl
  | 4, _ => rfl
  | 5, _ => rfl
  | 6, _ => rfl
  | 7, _ => rfl
theorem lm_roM {i : Nat} (h : i < 8) : [207, 208, 209, 210, 211, 212, 213, 214][i]? = some (206 + i + 1) := by
  match i, h with
  | 0, _ => rfl
  | 1, _ => rfl
  | 2, _ => rfl
  | 3, _ => rfl
  | 4, _ => rfl
  | 5, _ => rfl
  | 6, _ => rfl
  | 7, _ => rfl
