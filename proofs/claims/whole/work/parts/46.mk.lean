/-! ===== THE HEAP OUT OF A MEMORY: ints and longs by place and number, over a table of shapes ===== -/
/-- the shape of the cells behind the constructors, in pieces of twenty; fields: 0 an int, 1 a long, 2 a boolean, 3 one of the three hashes, 4 null, r + 5 the place r; rows: 0 null, r + 1 the place r -/
def lm_shc : List (List lm_T) := [[.inr (.inr (.inr (0, [6, 7, 9, 47, 49, 81, 199]))), .inr (.inr (.inl (6, [27, 29, 31, 33, 35, 37, 39, 41]))), .inr (.inr (.inr (1, [8, 0]))), .inl (1, 65536), .inr (.inr (.inr (2, [10, 16, 22, 28, 29, 30]))), .inr (.inr (.inr (5, [11, 0, 0, 1, 12, 0, 1, 13, 14, 15, 0]))), .inl (1, 168), .inl (1, 168), .inr (.inl 25), .inr (.inl 25), .inr (.inl 25), .inr (.inr (.inr (6, [17, 0, 0, 1, 18, 0, 1, 19, 20, 21]))), .inl (1, 64), .inl (1, 64), .inl (0, 8), .inl (0, 8), .inl (0, 64), .inr (.inr (.inr (7, [23, 0, 0, 1, 24, 0, 1, 25, 26, 27]))), .inl (1, 128), .inl (1, 128)],
  [.inr (.inl 8), .inr (.inl 8), .inr (.inl 80), .inl (1, 128), .inl (1, 64), .inl (1, 4), .inr (.inr (.inr (1, [32, 0]))), .inl (1, 65536), .inr (.inr (.inr (1, [34, 0]))), .inl (1, 65536), .inr (.inr (.inr (1, [36, 0]))), .inl (1, 65536), .inr (.inr (.inr (1, [38, 0]))), .inl (1, 65536), .inr (.inr (.inr (1, [40, 0]))), .inl (1, 65536), .inr (.inr (.inr (1, [42, 0]))), .inl (1, 65536), .inr (.inr (.inr (1, [44, 0]))), .inl (1, 65536)],
  [.inr (.inr (.inr (1, [46, 0]))), .inl (1, 65536), .inr (.inr (.inr (4, [9, 39, 37, 48, 0, 2]))), .inl (1, 332), .inr (.inr (.inr (8, [9, 50, 51, 52, 69, 74, 75, 76, 77, 78, 79, 80, 0, 0, 0, 0]))), .inl (0, 128), .inl (0, 128), .inr (.inr (.inl (3, [49, 50, 51, 52, 53, 54, 55, 56, 57, 58, 59, 60, 61, 62, 63, 64]))), .inl (0, 256), .inl (0, 256), .inl (0, 256), .inl (0, 256), .inl (0, 256), .inl (0, 256), .inl (0, 256), .inl (0, 256), .inl (0, 256), .inl (0, 256), .inl (0, 256), .inl (0, 256)],
  [.inl (0, 256), .inl (0, 256), .inl (0, 256), .inl (0, 256), .inr (.inr (.inl (3, [66, 67, 68, 69]))), .inl (0, 256), .inl (0, 256), .inl (0, 256), .inl (0, 256), .inl (0, 256), .inl (0, 256), .inl (1, 192), .inl (1, 34), .inl (1, 64), .inl (1, 32), .inl (1, 1568), .inr (.inr (.inr (9, [9, 82, 83, 140, 156, 165, 173, 181, 190, 191, 192, 193, 194, 195, 196, 197, 198, 0, 0, 0]))), .inl (0, 256), .inr (.inr (.inl (3, [80, 81, 82, 83, 84, 85, 86, 87, 88, 89, 90, 91, 92, 93, 94, 95, 96, 97, 98, 99, 100, 101, 102, 103, 104, 105, 106, 107, 108, 109, 110, 111, 112, 113, 114, 115, 116, 117, 118, 119, 120, 121, 122, 123, 124, 125, 126, 127, 128, 129, 130, 131, 132, 133, 134, 135]))), .inl (0, 256)],
  [.inl (0, 256), .inl (0, 256), .inl (0, 256), .inl (0, 256), .inl (0, 256), .inl (0, 256), .inl (0, 256), .inl (0, 256), .inl (0, 256), .inl (0, 256), .inl (0, 256), .inl (0, 256), .inl (0, 256), .inl (0, 256), .inl (0, 256), .inl (0, 256), .inl (0, 256), .inl (0, 256), .inl (0, 256), .inl (0, 256)],
  [.inl (0, 256), .inl (0, 256), .inl (0, 256), .inl (0, 256), .inl (0, 256), .inl (0, 256), .inl (0, 256), .inl (0, 256), .inl (0, 256), .inl (0, 256), .inl (0, 256), .inl (0, 256), .inl (0, 256), .inl (0, 256), .inl (0, 256), .inl (0, 256), .inl (0, 256), .inl (0, 256), .inl (0, 256), .inl (0, 256)],
  [.inl (0, 256), .inl (0, 256), .inl (0, 256), .inl (0, 256), .inl (0, 256), .inl (0, 256), .inl (0, 256), .inl (0, 256), .inl (0, 256), .inl (0, 256), .inl (0, 256), .inl (0, 256), .inl (0, 256), .inl (0, 256), .inl (0, 256), .inr (.inr (.inl (3, [137, 138, 139, 140, 141, 142, 143, 144, 145, 146, 147, 148, 149, 150, 151]))), .inl (0, 256), .inl (0, 256), .inl (0, 256), .inl (0, 256)],
  [.inl (0, 256), .inl (0, 256), .inl (0, 256), .inl (0, 256), .inl (0, 256), .inl (0, 256), .inl (0, 256), .inl (0, 256), .inl (0, 256), .inl (0, 256), .inl (0, 256), .inr (.inr (.inl (3, [153, 154, 155, 156, 157, 158, 159, 160]))), .inl (0, 256), .inl (0, 256), .inl (0, 256), .inl (0, 256), .inl (0, 256), .inl (0, 256), .inl (0, 256), .inl (0, 256)],
  [.inr (.inr (.inl (3, [162, 163, 164, 165, 166, 167, 168]))), .inl (0, 256), .inl (0, 256), .inl (0, 256), .inl (0, 256), .inl (0, 256), .inl (0, 256), .inl (0, 256), .inr (.inr (.inl (3, [170, 171, 172, 173, 174, 175, 176]))), .inl (0, 256), .inl (0, 256), .inl (0, 256), .inl (0, 256), .inl (0, 256), .inl (0, 256), .inl (0, 256), .inr (.inr (.inl (3, [178, 179, 180, 181, 182, 183, 184, 185]))), .inl (0, 256), .inl (0, 256), .inl (0, 256)],
  [.inl (0, 256), .inl (0, 256), .inl (0, 256), .inl (0, 256), .inl (0, 256), .inl (0, 256), .inl (0, 256), .inl (0, 256), .inl (1, 640), .inl (1, 128), .inl (1, 66), .inl (1, 64), .inl (1, 64), .inl (1, 84), .inr (.inr (.inr (10, [9, 3, 3, 2, 0, 0, 0, 0, 0, 0, 0, 0, 200, 201, 202, 203, 204, 205, 206, 207]))), .inl (1, 32), .inl (1, 32), .inl (1, 32), .inl (1, 64), .inl (1, 2144)],
  [.inl (1, 480), .inl (1, 64), .inl (0, 67), .inr (.inr (.inr (11, [209, 210, 219, 0, 0, 220, 221, 222, 223, 224, 225, 226, 227, 228, 229, 230, 231, 232, 0, 0, 0, 1, 233, 234, 0, 235, 236, 237, 268, 269, 270, 271, 0, 0, 0, 0, 272, 273, 274, 323, 332, 333, 0, 0, 0, 0, 0, 0, 0, 0, 334, 335, 336, 337, 338, 339, 356, 357, 358, 359, 360, 361, 362, 363, 364, 365, 366, 0, 0, 0, 0, 0, 0, 0, 2]))), .inl (1, 65536), .inr (.inr (.inl (4, [207, 208, 209, 210, 211, 212, 213, 214]))), .inl (1, 65536), .inl (1, 65536), .inl (1, 65536), .inl (1, 65536), .inl (1, 65536), .inl (1, 65536), .inl (1, 65536), .inl (1, 65536), .inl (0, 8), .inr (.inl 16), .inr (.inl 80), .inr (.inl 8), .inr (.inl 8), .inr (.inl 16)],
  [.inr (.inl 16), .inl (0, 25), .inr (.inl 24), .inr (.inl 25), .inr (.inl 25), .inr (.inl 5), .inr (.inl 80), .inl (1, 128), .inl (1, 128), .inl (1, 64), .inr (.inl 256), .inl (0, 256), .inr (.inr (.inl (3, [234, 235, 236, 237, 238, 239, 240, 241, 242, 243, 244, 245, 246, 247, 248, 249, 250, 251, 252, 253, 254, 255, 256, 257, 258, 259, 260, 261, 262, 263]))), .inl (0, 256), .inl (0, 256), .inl (0, 256), .inl (0, 256), .inl (0, 256), .inl (0, 256), .inl (0, 256)],
  [.inl (0, 256), .inl (0, 256), .inl (0, 256), .inl (0, 256), .inl (0, 256), .inl (0, 256), .inl (0, 256), .inl (0, 256), .inl (0, 256), .inl (0, 256), .inl (0, 256), .inl (0, 256), .inl (0, 256), .inl (0, 256), .inl (0, 256), .inl (0, 256), .inl (0, 256), .inl (0, 256), .inl (0, 256), .inl (0, 256)],
  [.inl (0, 256), .inl (0, 256), .inl (0, 256), .inl (1, 256), .inl (1, 256), .inl (1, 65536), .inl (1, 8192), .inl (1, 32), .inl (0, 512), .inr (.inr (.inl (3, [271, 272, 273, 274, 275, 276, 277, 278, 279, 280, 281, 282, 283, 284, 285, 286, 287, 288, 289, 290, 291, 292, 293, 294, 295, 296, 297, 298, 299, 300, 301, 302, 303, 304, 305, 306, 307, 308, 309, 310, 311, 312, 313, 314, 315, 316, 317, 318]))), .inl (0, 256), .inl (0, 256), .inl (0, 256), .inl (0, 256), .inl (0, 256), .inl (0, 256), .inl (0, 256), .inl (0, 256), .inl (0, 256), .inl (0, 256)],
  [.inl (0, 256), .inl (0, 256), .inl (0, 256), .inl (0, 256), .inl (0, 256), .inl (0, 256), .inl (0, 256), .inl (0, 256), .inl (0, 256), .inl (0, 256), .inl (0, 256), .inl (0, 256), .inl (0, 256), .inl (0, 256), .inl (0, 256), .inl (0, 256), .inl (0, 256), .inl (0, 256), .inl (0, 256), .inl (0, 256)],
  [.inl (0, 256), .inl (0, 256), .inl (0, 256), .inl (0, 256), .inl (0, 256), .inl (0, 256), .inl (0, 256), .inl (0, 256), .inl (0, 256), .inl (0, 256), .inl (0, 256), .inl (0, 256), .inl (0, 256), .inl (0, 256), .inl (0, 256), .inl (0, 256), .inl (0, 256), .inl (0, 256), .inr (.inr (.inl (5, [320, 321, 322, 323, 324, 325, 326, 327]))), .inl (2, 256)],
  [.inl (2, 256), .inl (2, 256), .inl (2, 256), .inl (2, 256), .inl (2, 256), .inl (2, 256), .inl (2, 256), .inl (1, 16384), .inl (1, 8192), .inl (1, 64), .inl (1, 64), .inl (1, 64), .inl (1, 64), .inl (1, 32), .inr (.inr (.inl (4, [336, 337, 338, 339, 340, 341, 342, 343, 344, 345, 346, 347, 348, 349, 350, 351]))), .inl (1, 64), .inl (1, 64), .inl (1, 64), .inl (1, 64), .inl (1, 64)],
  [.inl (1, 64), .inl (1, 64), .inl (1, 64), .inl (1, 64), .inl (1, 64), .inl (1, 64), .inl (1, 64), .inl (1, 64), .inl (1, 64), .inl (1, 64), .inl (1, 64), .inl (1, 2144), .inl (1, 2048), .inl (1, 32), .inl (1, 64), .inl (1, 64), .inl (1, 64), .inl (0, 67), .inl (1, 32), .inl (1, 32)],
  [.inl (1, 32), .inl (1, 32)]]
def lm_shq (q : Nat) : Option lm_T := match lm_shc[q / 20]? with
  | some l => l[q % 20]?
  | none => none
abbrev lm_MI : Type := Nat → Nat → Int32
abbrev lm_ML : Type := Nat → Nat → Int64
def lm_b1 (x : Int32) : Int32 := vp_nar .boolean x
def lm_fv (m : lm_MI) (n : lm_ML) (q k p : Nat) : Value := match p with
  | 0 => .int (m q k)
  | 1 => .long (n q k)
  | 2 => .int (lm_b1 (m q k))
  | 3 => .ref (m q k).toNatClampNeg
  | 4 => .null
  | r + 5 => .ref r
def lm_rr (r : Nat) : Option Nat := match r with
  | 0 => none
  | p + 1 => some p
def lm_elm (u : Nat) (x : Int32) : Int32 := match u with
  | 0 => x
  | 1 => lm_b8 x
  | _ => lm_b1 x
def lm_mkc (m : lm_MI) (n : lm_ML) (q : Nat) (t : lm_T) : lm_C := match t with
  | .inl (u, k) => .inl (u, (List.range k).map fun i => lm_elm u (m q i))
  | .inr (.inl k) => .inr (.inl ((List.range k).map fun i => n q i))
  | .inr (.inr (.inl (u, rs))) => .inr (.inr (.inl (u, rs.map lm_rr)))
  | .inr (.inr (.inr (c, ps))) => .inr (.inr (.inr (c, ps.mapIdx fun k p => lm_fv m n q k p)))
def lm_small (t : lm_T) : Bool := match t with
  | .inl (_, k) => Nat.ble k 65536
  | .inr (.inl k) => Nat.ble k 65536
  | .inr (.inr (.inl (u, rs))) => Nat.ble rs.length 65536 && (Nat.ble 3 u && Nat.ble u 6)
  | _ => true
/-- a cell that is still made: only the numbers of S are set -/
def lm_opn (t : lm_T) (S : List Nat) : lm_T := match t with
  | .inr (.inr (.inr (c, ps))) => .inr (.inr (.inr (c, ps.mapIdx fun k p => cond ((Nat.ble 5 p || Nat.beq p 3) && !S.any (fun j => Nat.beq j k)) 4 p)))
  | .inr (.inr (.inl (u, rs))) => .inr (.inr (.inl (u, rs.mapIdx fun k r => cond (S.any (fun j => Nat.beq j k)) r 0)))
  | t => t
/-- the table in part: the first K places; D: the cells that are still made -/
def lm_dt (K : Nat) (D : List (Nat × List Nat)) (q : Nat) : Option lm_T := cond (Nat.blt q K && Nat.blt q 900000) (match (match D.find? (fun e => Nat.beq e.1 q) with
  | some e => (lm_shq q).map fun t => lm_opn t e.2
  | none => lm_shq q) with
  | some t => cond (lm_small t) (some t) none
  | none => none) none
def lm_mkD (k : Nat) (D : List (Nat × List Nat)) (m : lm_MI) (n : lm_ML) : lm_H := (List.range k).map fun q => lm_mkc m n q ((lm_dt k D q).getD (.inr (.inl 0)))
/-- a state: the memory, then further cells and the room that is left -/
def lm_W (k : Nat) (D : List (Nat × List Nat)) (m : lm_MI) (n : lm_ML) (x : lm_H × Nat × Nat) : lm_S := (lm_mkD k D m n ++ x.1, x.2)
abbrev lm_w (m : lm_MI) (n : lm_ML) (x : lm_H × Nat × Nat) : lm_S := lm_W 362 [] m n x
/-- one number written -/
def lm_u {α : Type} (m : Nat → Nat → α) (q a : Nat) (v : α) : Nat → Nat → α := fun q' a' => if q' = q ∧ a' = a then v else m q' a'
/-- n numbers of p from a on laid into q from b on -/
def lm_cp {α : Type} (m : Nat → Nat → α) (q b p a n : Nat) : Nat → Nat → α := fun q' i => if q' = q ∧ b ≤ i ∧ i < b + n then m p (i - b + a) else m q' i
/-- what the table says of a field, an array, rows, an object -/
def lm_fpW (K : Nat) (D : List (Nat × List Nat)) (e o : Nat) : Option Nat := match lm_dt K D o with
  | some (.inr (.inr (.inr (c, ps)))) => cond (lm_sub (e / 400) c) ps[e / 4 % 100]? none
  | _ => none
def lm_arW (K : Nat) (D : List (Nat × List Nat)) (q : Nat) : Option (Nat × Nat) := match lm_dt K D q with
  | some (.inl t) => some t
  | _ => none
def lm_alW (K : Nat) (D : List (Nat × List Nat)) (q : Nat) : Option Nat := match lm_dt K D q with
  | some (.inr (.inl k)) => some k
  | _ => none
def lm_roW (K : Nat) (D : List (Nat × List Nat)) (q : Nat) : Option (Nat × List Nat) := match lm_dt K D q with
  | some (.inr (.inr (.inl t))) => some t
  | _ => none
def lm_ocW (K : Nat) (D : List (Nat × List Nat)) (q : Nat) : Option Nat := match lm_dt K D q with
  | some (.inr (.inr (.inr (c, _)))) => some c
  | _ => none
abbrev lm_fdp (e o : Nat) : Option Nat := lm_fpW 362 [] e o
abbrev lm_ar (q : Nat) : Option (Nat × Nat) := lm_arW 362 [] q
abbrev lm_al (q : Nat) : Option Nat := lm_alW 362 [] q
abbrev lm_ro (q : Nat) : Option (Nat × List Nat) := lm_roW 362 [] q
abbrev lm_oc (q : Nat) : Option Nat := lm_ocW 362 [] q
section LMMK
variable {K : Nat} {D : List (Nat × List Nat)} {m m' : lm_MI} {n n' : lm_ML} {x : lm_H × Nat × Nat} {q o e k u a c i : Nat} {t : lm_T}
theorem lm_dt_lt (ht : lm_dt K D q = some t) : q < K := by
  unfold lm_dt at ht
  cases h : Nat.blt q K && Nat.blt q 900000 with
  | true =>
    rw [Bool.and_eq_true, Nat.blt_eq, Nat.blt_eq] at h
    exact h.1
  | false => rw [h, cond_false] at ht; cases ht
theorem lm_mk_len : (lm_mkD K D m n).length = K := by
  unfold lm_mkD
  rw [List.length_map, List.length_range]
theorem lm_mk_get (ht : lm_dt K D q = some t) : (lm_mkD K D m n ++ x.1)[q]? = some (lm_mkc m n q t) := by
  have h := lm_dt_lt ht
  rw [List.getElem?_append_left (by rw [lm_mk_len]; exact h)]
  unfold lm_mkD
  rw [List.getElem?_map, List.getElem?_range h, Option.map_some, ht]
  rfl
theorem lm_mkc_congr (h1 : m q = m' q) (h2 : n q = n' q) : lm_mkc m n q t = lm_mkc m' n' q t := by
  unfold lm_mkc lm_fv
  rw [h1, h2]
theorem lm_mk_set {c : lm_C} (ht : lm_dt K D q = some t) (hc : lm_mkc m' n' q t = c) (h1 : ∀ p, p ≠ q → m' p = m p) (h2 : ∀ p, p ≠ q → n' p = n p) : (lm_mkD K D m n ++ x.1).set q c = lm_mkD K D m' n' ++ x.1 := by
  have h := lm_dt_lt ht
  rw [List.set_append_left _ _ (by rw [lm_mk_len]; exact h)]
  refine congrArg (fun l => l ++ x.1) ?_
  apply List.ext_getElem?
  intro i
  unfold lm_mkD
  rw [List.getElem?_set, List.getElem?_map, List.getElem?_map, List.length_map, List.length_range]
  by_cases e : q = i
  · subst e
    rw [if_pos rfl, if_pos h, List.getElem?_range h, Option.map_some, ht, ← hc]
    rfl
  · rw [if_neg e]
    by_cases hi : i < K
    · rw [List.getElem?_range hi, Option.map_some, Option.map_some, lm_mkc_congr (h1 i (fun h => e h.symm)) (h2 i (fun h => e h.symm))]
    · rw [List.getElem?_eq_none (by simpa using hi)]
      rfl
theorem lm_u_eq {α : Type} {m : Nat → Nat → α} {v : α} : lm_u m q a v q a = v := if_pos ⟨rfl, rfl⟩
theorem lm_u_ne {α : Type} {m : Nat → Nat → α} {v : α} {q' a' : Nat} (h : ¬ (q' = q ∧ a' = a)) : lm_u m q a v q' a' = m q' a' := if_neg h
theorem lm_u_row {α : Type} {m : Nat → Nat → α} {v : α} {p : Nat} (h : p ≠ q) : lm_u m q a v p = m p := by
  funext i
  exact if_neg fun g => h g.1
theorem lm_cp_row {α : Type} {m : Nat → Nat → α} {b p j p' : Nat} (h : p' ≠ q) : lm_cp m q b p a j p' = m p' := by
  funext i
  exact if_neg fun g => h g.1
theorem lm_shp_fp (h : lm_fpW K D e o = some k) : ∃ c ps, lm_dt K D o = some (.inr (.inr (.inr (c, ps)))) ∧ lm_sub (e / 400) c = true ∧ ps[e / 4 % 100]? = some k := by
  unfold lm_fpW at h
  split at h
  · rename_i c ps hc
    cases hs : lm_sub (e / 400) c with
    | false => rw [hs, cond_false] at h; cases h
    | true => rw [hs, cond_true] at h; exact ⟨c, ps, hc, hs, h⟩
  · cases h
theorem lm_shp_ar (h : lm_arW K D q = some (u, k)) : lm_dt K D q = some (.inl (u, k)) := by
  unfold lm_arW at h
  split at h
  · rename_i c hc
    cases h
    exact hc
  · cases h
theorem lm_shp_al (h : lm_alW K D q = some k) : lm_dt K D q = some (.inr (.inl k)) := by
  unfold lm_alW at h
  split at h
  · rename_i c hc
    cases h
    exact hc
  · cases h
theorem lm_shp_ro {rs : List Nat} (h : lm_roW K D q = some (u, rs)) : lm_dt K D q = some (.inr (.inr (.inl (u, rs)))) := by
  unfold lm_roW at h
  split at h
  · rename_i c hc
    cases h
    exact hc
  · cases h
theorem lm_shp_oc (h : lm_ocW K D q = some c) : ∃ ps, lm_dt K D q = some (.inr (.inr (.inr (c, ps)))) := by
  unfold lm_ocW at h
  split at h
  · rename_i c ps hc
    cases h
    exact ⟨ps, hc⟩
  · cases h
theorem lm_q_lt (h : lm_dt K D q = some t) : q < lm_B := by
  unfold lm_dt at h
  cases h1 : Nat.blt q K && Nat.blt q 900000 with
  | true =>
    rw [Bool.and_eq_true, Nat.blt_eq, Nat.blt_eq] at h1
    exact Nat.lt_trans h1.2 (by decide)
  | false => rw [h1, cond_false] at h; cases h
theorem lm_shp_sm (h : lm_dt K D q = some t) : lm_small t = true := by
  unfold lm_dt at h
  cases h1 : Nat.blt q K && Nat.blt q 900000 with
  | true =>
    rw [h1, cond_true] at h
    split at h
    · rename_i t' _
      cases h2 : lm_small t' with
      | true => rw [h2, cond_true] at h; cases h; exact h2
      | false => rw [h2, cond_false] at h; cases h
    · cases h
  | false => rw [h1, cond_false] at h; cases h
theorem lm_rg_len {α : Type} (f : Nat → α) : ((List.range k).map f).length = k := by simp
theorem lm_rg_get {α : Type} (f : Nat → α) (d : α) (h : i < k) : ((List.range k).map f).getD i d = f i := by
  rw [List.getD_eq_getElem?_getD, List.getElem?_map, List.getElem?_range h]
  rfl
theorem lm_rg_set {α : Type} (f : Nat → α) (v : α) : ((List.range k).map f).set i v = (List.range k).map fun j => if j = i then v else f j := by
  apply List.ext_getElem?
  intro j
  rw [List.getElem?_set, List.getElem?_map, List.getElem?_map]
  by_cases hj : j < k
  · rw [List.getElem?_range hj]
    by_cases e : i = j
    · subst e
      simp [hj]
    · rw [if_neg e]
      simp only [Option.map_some, if_neg (fun h : j = i => e h.symm)]
  · rw [List.getElem?_eq_none (by simpa using hj)]
    by_cases e : i = j
    · subst e
      simp [hj]
    · simp [e]
theorem lm_rg_lay {α : Type} (f g : Nat → α) {j sp dp w : Nat} (h1 : sp + w ≤ j) (h2 : dp + w ≤ k) : lm_lay ((List.range k).map f) ((List.range j).map g) sp dp w = (List.range k).map fun i => if dp ≤ i ∧ i < dp + w then g (i - dp + sp) else f i := by
  unfold lm_lay
  apply List.ext_getElem?
  intro i
  have l1 : (((List.range k).map f).take dp).length = dp := by simp; omega
  have l2 : ((((List.range j).map g).drop sp).take w).length = w := by simp; omega
  by_cases a1 : i < dp
  · rw [List.getElem?_append_left (by rw [l1]; exact a1), List.getElem?_take_of_lt a1, List.getElem?_map, List.getElem?_map, List.getElem?_range (by omega), Option.map_some, Option.map_some, if_neg (fun h => by omega)]
  · rw [List.getElem?_append_right (by rw [l1]; omega), l1]
    by_cases a2 : i < dp + w
    · rw [List.getElem?_append_left (by rw [l2]; omega), List.getElem?_take_of_lt (by omega), List.getElem?_drop, List.getElem?_map, List.getElem?_map, List.getElem?_range (by omega), List.getElem?_range (by omega), Option.map_some, Option.map_some, if_pos ⟨by omega, a2⟩, Nat.add_comm sp]
    · rw [List.getElem?_append_right (by rw [l2]; omega), l2, List.getElem?_drop, List.getElem?_map, List.getElem?_map, show dp + w + (i - dp - w) = i by omega]
      by_cases a3 : i < k
      · rw [List.getElem?_range a3, Option.map_some, Option.map_some, if_neg (fun h => by omega)]
      · rw [List.getElem?_eq_none (by simpa using a3)]
        rfl
/-! steps: one operation, then the rest -/
variable {β : Type} {sc : lm_H} {r : Option (Except Nat β × lm_S)}
theorem lm_sI {f : Int32 → lm_M β} (h : lm_fpW K D e o = some 0) (k : f (m o (e / 4 % 100)) (lm_W K D m n x) = r) : lm_bind (lm_gI e o) f (lm_W K D m n x) = r := by
  obtain ⟨c, ps, h1, h2, h3⟩ := lm_shp_fp h
  rw [← k]
  refine lm_bd_ok (lm_gI_ok (lm_mk_get h1) (lm_q_lt h1) h2 ?_)
  rw [List.getElem?_mapIdx, h3]
  rfl
theorem lm_sIz {f : Int32 → lm_M β} (h : lm_fpW K D e o = some 2) (k : f (lm_b1 (m o (e / 4 % 100))) (lm_W K D m n x) = r) : lm_bind (lm_gI e o) f (lm_W K D m n x) = r := by
  obtain ⟨c, ps, h1, h2, h3⟩ := lm_shp_fp h
  rw [← k]
  refine lm_bd_ok (lm_gI_ok (lm_mk_get h1) (lm_q_lt h1) h2 ?_)
  rw [List.getElem?_mapIdx, h3]
  rfl
theorem lm_sL {f : Int64 → lm_M β} (h : lm_fpW K D e o = some 1) (k : f (n o (e / 4 % 100)) (lm_W K D m n x) = r) : lm_bind (lm_gL e o) f (lm_W K D m n x) = r := by
  obtain ⟨c, ps, h1, h2, h3⟩ := lm_shp_fp h
  rw [← k]
  refine lm_bd_ok (lm_gL_ok (lm_mk_get h1) (lm_q_lt h1) h2 ?_)
  rw [List.getElem?_mapIdx, h3]
  rfl
theorem lm_sR {f : Nat → lm_M β} {p : Nat} (h : lm_fpW K D e o = some (p + 5)) (k : f p (lm_W K D m n x) = r) : lm_bind (lm_gR e o) f (lm_W K D m n x) = r := by
  obtain ⟨c, ps, h1, h2, h3⟩ := lm_shp_fp h
  rw [← k]
  refine lm_bd_ok (lm_gR_ok (lm_mk_get h1) (lm_q_lt h1) h2 ?_)
  rw [List.getElem?_mapIdx, h3]
  rfl
theorem lm_sRh {f : Nat → lm_M β} (h : lm_fpW K D e o = some 3) (k : f (m o (e / 4 % 100)).toNatClampNeg (lm_W K D m n x) = r) : lm_bind (lm_gR e o) f (lm_W K D m n x) = r := by
  obtain ⟨c, ps, h1, h2, h3⟩ := lm_shp_fp h
  rw [← k]
  refine lm_bd_ok (lm_gR_ok (lm_mk_get h1) (lm_q_lt h1) h2 ?_)
  rw [List.getElem?_mapIdx, h3]
  rfl
theorem lm_mi_set {ps : List Nat} {g g' : Nat → Nat → Value} {j : Nat} {v : Value} {p : Nat} (hp : ps[j]? = some p) (hv : g' j p = v) (hn : ∀ i p, i ≠ j → g' i p = g i p) : (ps.mapIdx g).set j v = ps.mapIdx g' := by
  apply List.ext_getElem?
  intro i
  rw [List.getElem?_set, List.getElem?_mapIdx, List.getElem?_mapIdx, List.length_mapIdx]
  by_cases e : j = i
  · subst e
    simp only [↓reduceIte, (List.getElem?_eq_some_iff.mp hp).1, hp, Option.map_some, hv]
  · rw [if_neg e]
    cases ps[i]? with
    | none => rfl
    | some t' => simp only [Option.map_some, hn i t' (fun h => e h.symm)]
theorem lm_fv_ne {v : Int32} {j p : Nat} (h : j ≠ k) : lm_fv (lm_u m q k v) n q j p = lm_fv m n q j p := by
  unfold lm_fv
  rw [lm_u_ne (fun g => h g.2)]
theorem lm_fv_neL {v : Int64} {j p : Nat} (h : j ≠ k) : lm_fv m (lm_u n q k v) q j p = lm_fv m n q j p := by
  unfold lm_fv
  rw [lm_u_ne (fun g => h g.2)]
theorem lm_sP {f : Unit → lm_M β} {v : Int32} (h : lm_fpW K D e o = some 0) (he : e % 4 = 0) (k : f () (lm_W K D (lm_u m o (e / 4 % 100) v) n x) = r) : lm_bind (lm_putf e o (.int v)) f (lm_W K D m n x) = r := by
  obtain ⟨c, ps, h1, h2, h3⟩ := lm_shp_fp h
  rw [← k]
  refine lm_bd_ok ((lm_putf_ok (lm_mk_get h1) (lm_q_lt h1) h2 ?_ ?_).trans ?_)
  · rw [List.length_mapIdx]
    exact Nat.blt_eq.mpr (List.getElem?_eq_some_iff.mp h3).1
  · rw [he]
    rfl
  · unfold lm_W
    rw [lm_mk_set (m' := lm_u m o (e / 4 % 100) v) (n' := n) h1 ?_ (fun p hp => lm_u_row hp) (fun _ _ => rfl)]
    show (Sum.inr (Sum.inr (Sum.inr (c, _))) : lm_C) = _
    rw [lm_mi_set (g := fun k p => lm_fv m n o k p) (g' := fun k p => lm_fv (lm_u m o (e / 4 % 100) v) n o k p) h3]
    · show Value.int (lm_u m o (e / 4 % 100) v o (e / 4 % 100)) = _
      rw [lm_u_eq]
    · exact fun i p hi => lm_fv_ne hi
theorem lm_b1z (b : Bool) : lm_b1 (lm_z b) = lm_z b := by cases b <;> rfl
theorem lm_sPz {f : Unit → lm_M β} {v : Int32} (h : lm_fpW K D e o = some 2) (he : e % 4 = 3) (hv : v = 0 ∨ v = 1) (k : f () (lm_W K D (lm_u m o (e / 4 % 100) v) n x) = r) : lm_bind (lm_putf e o (.int v)) f (lm_W K D m n x) = r := by
  obtain ⟨c, ps, h1, h2, h3⟩ := lm_shp_fp h
  rw [← k]
  refine lm_bd_ok ((lm_putf_ok (lm_mk_get h1) (lm_q_lt h1) h2 ?_ ?_).trans ?_)
  · rw [List.length_mapIdx]
    exact Nat.blt_eq.mpr (List.getElem?_eq_some_iff.mp h3).1
  · rw [he]
    rcases hv with hv | hv <;> rw [hv] <;> rfl
  · unfold lm_W
    rw [lm_mk_set (m' := lm_u m o (e / 4 % 100) v) (n' := n) h1 ?_ (fun p hp => lm_u_row hp) (fun _ _ => rfl)]
    show (Sum.inr (Sum.inr (Sum.inr (c, _))) : lm_C) = _
    rw [lm_mi_set (g := fun k p => lm_fv m n o k p) (g' := fun k p => lm_fv (lm_u m o (e / 4 % 100) v) n o k p) h3]
    · show Value.int (lm_b1 (lm_u m o (e / 4 % 100) v o (e / 4 % 100))) = _
      rw [lm_u_eq]
      rcases hv with hv | hv <;> rw [hv] <;> rfl
    · exact fun i p hi => lm_fv_ne hi
theorem lm_sPL {f : Unit → lm_M β} {v : Int64} (h : lm_fpW K D e o = some 1) (he : e % 4 = 1) (k : f () (lm_W K D m (lm_u n o (e / 4 % 100) v) x) = r) : lm_bind (lm_putf e o (.long v)) f (lm_W K D m n x) = r := by
  obtain ⟨c, ps, h1, h2, h3⟩ := lm_shp_fp h
  rw [← k]
  refine lm_bd_ok ((lm_putf_ok (lm_mk_get h1) (lm_q_lt h1) h2 ?_ ?_).trans ?_)
  · rw [List.length_mapIdx]
    exact Nat.blt_eq.mpr (List.getElem?_eq_some_iff.mp h3).1
  · rw [he]
    rfl
  · unfold lm_W
    rw [lm_mk_set (m' := m) (n' := lm_u n o (e / 4 % 100) v) h1 ?_ (fun _ _ => rfl) (fun p hp => lm_u_row hp)]
    show (Sum.inr (Sum.inr (Sum.inr (c, _))) : lm_C) = _
    rw [lm_mi_set (g := fun k p => lm_fv m n o k p) (g' := fun k p => lm_fv m (lm_u n o (e / 4 % 100) v) o k p) h3]
    · show Value.long (lm_u n o (e / 4 % 100) v o (e / 4 % 100)) = _
      rw [lm_u_eq]
    · exact fun i p hi => lm_fv_neL hi
theorem lm_ar_le (h : lm_arW K D q = some (u, k)) : k ≤ 65536 := Nat.ble_eq.mp (lm_shp_sm (lm_shp_ar h))
theorem lm_al_le (h : lm_alW K D q = some k) : k ≤ 65536 := Nat.ble_eq.mp (lm_shp_sm (lm_shp_al h))
theorem lm_cellw (ht : lm_dt K D q = some t) : lm_cell sc (lm_mkD K D m n ++ x.1) q = some (lm_mkc m n q t) := (lm_cell_h (lm_q_lt ht)).trans (lm_mk_get ht)
theorem lm_sB {f : Int32 → lm_M β} {w : Nat} (h : lm_arW K D q = some (1, w)) (ha : a < w) (k : f (lm_b8 (m q a)) (lm_W K D m n x) = r) : lm_bind (lm_bald sc q (Int32.ofNat a)) f (lm_W K D m n x) = r := by
  have h1 := lm_ar_le h
  rw [← k]
  refine lm_bd_ok ((lm_bald_ok (lm_cellw (lm_shp_ar h)) (by rw [lm_rg_len]; exact ha) (by rw [lm_rg_len]; omega)).trans ?_)
  rw [lm_rg_get _ _ ha]
  rfl
theorem lm_sA {f : Int32 → lm_M β} {w : Nat} (h : lm_arW K D q = some (0, w)) (ha : a < w) (k : f (m q a) (lm_W K D m n x) = r) : lm_bind (lm_iald sc q (Int32.ofNat a)) f (lm_W K D m n x) = r := by
  have h1 := lm_ar_le h
  rw [← k]
  refine lm_bd_ok ((lm_iald_ok (lm_cellw (lm_shp_ar h)) (by rw [lm_rg_len]; exact ha) (by rw [lm_rg_len]; omega)).trans ?_)
  rw [lm_rg_get _ _ ha]
  rfl
theorem lm_sJ {f : Int64 → lm_M β} {w : Nat} (h : lm_alW K D q = some w) (ha : a < w) (k : f (n q a) (lm_W K D m n x) = r) : lm_bind (lm_lald sc q (Int32.ofNat a)) f (lm_W K D m n x) = r := by
  have h1 := lm_al_le h
  rw [← k]
  refine lm_bd_ok ((lm_lald_ok (lm_cellw (lm_shp_al h)) (by rw [lm_rg_len]; exact ha) (by rw [lm_rg_len]; omega)).trans ?_)
  rw [lm_rg_get _ _ ha]
  rfl
theorem lm_nar8 (v : Int32) : vp_nar .byte v = lm_b8 v := rfl
theorem lm_wB {f : Unit → lm_M β} {w : Nat} {v : Int32} (h : lm_arW K D q = some (1, w)) (ha : a < w) (k : f () (lm_W K D (lm_u m q a v) n x) = r) : lm_bind (lm_bast q (Int32.ofNat a) v) f (lm_W K D m n x) = r := by
  have h1 := lm_ar_le h
  have h2 := lm_shp_ar h
  rw [← k]
  refine lm_bd_ok ((lm_bast_ok (lm_mk_get h2) (lm_q_lt h2) (by rw [lm_rg_len]; exact ha) (by rw [lm_rg_len]; omega)).trans ?_)
  unfold lm_W
  rw [lm_mk_set (m' := lm_u m q a v) (n' := n) h2 ?_ (fun p hp => lm_u_row hp) (fun _ _ => rfl)]
  rw [lm_rg_set]
  show (Sum.inl (1, _) : lm_C) = _
  congr 3
  funext i
  show lm_b8 (lm_u m q a v q i) = if i = a then vp_nar .byte v else lm_b8 (m q i)
  by_cases e : i = a
  · subst e
    rw [lm_u_eq, if_pos rfl, lm_nar8]
  · rw [lm_u_ne (fun g => e g.2), if_neg e]
theorem lm_wA {f : Unit → lm_M β} {w : Nat} {v : Int32} (h : lm_arW K D q = some (0, w)) (ha : a < w) (k : f () (lm_W K D (lm_u m q a v) n x) = r) : lm_bind (lm_iast q (Int32.ofNat a) v) f (lm_W K D m n x) = r := by
  have h1 := lm_ar_le h
  have h2 := lm_shp_ar h
  rw [← k]
  refine lm_bd_ok ((lm_iast_ok (lm_mk_get h2) (lm_q_lt h2) (by rw [lm_rg_len]; exact ha) (by rw [lm_rg_len]; omega)).trans ?_)
  unfold lm_W
  rw [lm_mk_set (m' := lm_u m q a v) (n' := n) h2 ?_ (fun p hp => lm_u_row hp) (fun _ _ => rfl)]
  rw [lm_rg_set]
  show (Sum.inl (0, _) : lm_C) = _
  congr 3
  funext i
  show lm_u m q a v q i = if i = a then v else m q i
  by_cases e : i = a
  · subst e
    rw [lm_u_eq, if_pos rfl]
  · rw [lm_u_ne (fun g => e g.2), if_neg e]
theorem lm_wJ {f : Unit → lm_M β} {w : Nat} {v : Int64} (h : lm_alW K D q = some w) (ha : a < w) (k : f () (lm_W K D m (lm_u n q a v) x) = r) : lm_bind (lm_last q (Int32.ofNat a) v) f (lm_W K D m n x) = r := by
  have h1 := lm_al_le h
  have h2 := lm_shp_al h
  rw [← k]
  refine lm_bd_ok ((lm_last_ok (lm_mk_get h2) (lm_q_lt h2) (by rw [lm_rg_len]; exact ha) (by rw [lm_rg_len]; omega)).trans ?_)
  unfold lm_W
  rw [lm_mk_set (m' := m) (n' := lm_u n q a v) h2 ?_ (fun _ _ => rfl) (fun p hp => lm_u_row hp)]
  rw [lm_rg_set]
  show (Sum.inr (Sum.inl _) : lm_C) = _
  congr 3
  funext i
  show lm_u n q a v q i = if i = a then v else n q i
  by_cases e : i = a
  · subst e
    rw [lm_u_eq, if_pos rfl]
  · rw [lm_u_ne (fun g => e g.2), if_neg e]
theorem lm_sAA {f : Nat → lm_M β} {rs : List Nat} {p : Nat} (h : lm_roW K D q = some (u, rs)) (ha : rs[a]? = some (p + 1)) (k : f p (lm_W K D m n x) = r) : lm_bind (lm_aaR sc q (Int32.ofNat a)) f (lm_W K D m n x) = r := by
  have h2 := lm_shp_ro h
  have h3 := lm_shp_sm h2
  have h4 : rs.length ≤ 65536 ∧ 3 ≤ u ∧ u ≤ 6 := by
    simp only [lm_small, Bool.and_eq_true, Nat.ble_eq] at h3
    exact h3
  rw [← k]
  refine lm_bd_ok (lm_oaa (u := u) (rs := rs.map lm_rr) ?_ (lm_q_lt h2) h4.2 (by rw [List.getElem?_map, ha]; rfl) (by rw [List.length_map]; omega))
  unfold lm_vR
  rw [lm_mk_get h2]
  rfl
theorem lm_sS {f : Nat → lm_M β} {vt : List (Nat × Nat)} {y : Nat} (h : lm_ocW K D o = some c) (hf : lm_find vt (some c) = some y) (k : f y (lm_W K D m n x) = r) : lm_bind (lm_sel vt (some (.ref o))) f (lm_W K D m n x) = r := by
  obtain ⟨ps, h2⟩ := lm_shp_oc h
  rw [← k]
  refine lm_bd_ok (lm_osel (c := c) ?_ (lm_q_lt h2) hf)
  unfold lm_vK
  rw [lm_mk_get h2]
  rfl
theorem lm_sAl {f : Int32 → lm_M β} {w : Nat} (h : lm_arW K D q = some (u, w)) (hu : u ≤ 2) (k : f (Int32.ofNat w) (lm_W K D m n x) = r) : lm_bind (lm_alen sc q) f (lm_W K D m n x) = r := by
  rw [← k]
  refine lm_bd_ok ?_
  unfold lm_alen lm_W
  dsimp only
  rw [lm_cellw (lm_shp_ar h)]
  show (if u ≤ 2 then _ else _) = _
  rw [if_pos hu, lm_rg_len]
theorem lm_sAlL {f : Int32 → lm_M β} {w : Nat} (h : lm_alW K D q = some w) (k : f (Int32.ofNat w) (lm_W K D m n x) = r) : lm_bind (lm_alen sc q) f (lm_W K D m n x) = r := by
  rw [← k]
  refine lm_bd_ok ?_
  unfold lm_alen lm_W
  dsimp only
  rw [lm_cellw (lm_shp_al h)]
  show some (Except.ok (Int32.ofNat ((List.range w).map _).length), _) = _
  rw [lm_rg_len]
theorem lm_nn {a : Nat} (ha : a ≤ 1000000) : ¬ Int32.ofNat a < 0 ∧ (Int32.ofNat a).toNatClampNeg = a := lm_ix (n := 1000001) (by omega) (by omega)
theorem lm_sCp {f : Unit → lm_M β} {p b j v w : Nat} (h1 : lm_arW K D p = some (u, v)) (h2 : lm_arW K D q = some (u, w)) (hu : u = 0 ∨ u = 1) (ha : a + j ≤ v) (hb : b + j ≤ w) (k : f () (lm_W K D (lm_cp m q b p a j) n x) = r) : lm_bind (lm_copy sc p (Int32.ofNat a) q (Int32.ofNat b) (Int32.ofNat j)) f (lm_W K D m n x) = r := by
  have g1 := lm_ar_le h1
  have g2 := lm_ar_le h2
  have e1 := lm_shp_ar h1
  have e2 := lm_shp_ar h2
  rw [← k]
  refine lm_bd_ok ?_
  unfold lm_copy lm_W
  dsimp only
  rw [if_pos ⟨lm_q_lt e2, (lm_nn (a := a) (by omega)).1, (lm_nn (a := b) (by omega)).1, (lm_nn (a := j) (by omega)).1⟩, lm_cellw e1, lm_mk_get e2]
  show (if u = u ∧ (u = 0 ∨ u = 1) ∧ _ ≤ ((List.range v).map _).length ∧ _ ≤ ((List.range w).map _).length then _ else _) = _
  rw [(lm_nn (a := a) (by omega)).2, (lm_nn (a := b) (by omega)).2, (lm_nn (a := j) (by omega)).2, lm_rg_len, lm_rg_len, if_pos ⟨rfl, hu, ha, hb⟩, lm_rg_lay _ _ ha hb]
  rw [lm_mk_set (m' := lm_cp m q b p a j) (n' := n) e2 ?_ (fun p hp => lm_cp_row hp) (fun _ _ => rfl)]
  show (Sum.inl (u, _) : lm_C) = _
  congr 3
  funext i
  show lm_elm u (if q = q ∧ b ≤ i ∧ i < b + j then m p (i - b + a) else m q i) = if b ≤ i ∧ i < b + j then lm_elm u (m p (i - b + a)) else lm_elm u (m q i)
  by_cases e : b ≤ i ∧ i < b + j
  · rw [if_pos ⟨rfl, e⟩, if_pos e]
  · rw [if_neg (fun g => e g.2), if_neg e]
theorem lm_sCpL {f : Unit → lm_M β} {p b j v w : Nat} (h1 : lm_alW K D p = some v) (h2 : lm_alW K D q = some w) (ha : a + j ≤ v) (hb : b + j ≤ w) (k : f () (lm_W K D m (lm_cp n q b p a j) x) = r) : lm_bind (lm_copy sc p (Int32.ofNat a) q (Int32.ofNat b) (Int32.ofNat j)) f (lm_W K D m n x) = r := by
  have g1 := lm_al_le h1
  have g2 := lm_al_le h2
  have e1 := lm_shp_al h1
  have e2 := lm_shp_al h2
  rw [← k]
  refine lm_bd_ok ?_
  unfold lm_copy lm_W
  dsimp only
  rw [if_pos ⟨lm_q_lt e2, (lm_nn (a := a) (by omega)).1, (lm_nn (a := b) (by omega)).1, (lm_nn (a := j) (by omega)).1⟩, lm_cellw e1, lm_mk_get e2]
  show (if _ ≤ ((List.range v).map _).length ∧ _ ≤ ((List.range w).map _).length then _ else _) = _
  rw [(lm_nn (a := a) (by omega)).2, (lm_nn (a := b) (by omega)).2, (lm_nn (a := j) (by omega)).2, lm_rg_len, lm_rg_len, if_pos ⟨ha, hb⟩, lm_rg_lay _ _ ha hb]
  rw [lm_mk_set (m' := m) (n' := lm_cp n q b p a j) e2 ?_ (fun _ _ => rfl) (fun p hp => lm_cp_row hp)]
  show (Sum.inr (Sum.inl _) : lm_C) = _
  congr 3
  funext i
  show (if q = q ∧ b ≤ i ∧ i < b + j then n p (i - b + a) else n q i) = if b ≤ i ∧ i < b + j then n p (i - b + a) else n q i
  by_cases e : b ≤ i ∧ i < b + j
  · rw [if_pos ⟨rfl, e⟩, if_pos e]
  · rw [if_neg (fun g => e g.2), if_neg e]
end LMMK
section LMMC
variable {σ σ' : lm_S} {β : Type} {r : Option (Except Nat β × lm_S)} {y : lm_M lm_R}
/-! calls, branches -/
theorem lm_cV {f : Unit → lm_M β} (hc : y σ = some (.ok none, σ')) (k : f () σ' = r) : lm_bind (lm_asV y) f σ = r := (lm_bd_ok (lm_asV_ok hc)).trans k
theorem lm_cI {f : Int32 → lm_M β} {v : Int32} (hc : y σ = some (.ok (some (.int v)), σ')) (k : f v σ' = r) : lm_bind (lm_asI y) f σ = r := (lm_bd_ok (lm_asI_ok hc)).trans k
theorem lm_cLg {f : Int64 → lm_M β} {v : Int64} (hc : y σ = some (.ok (some (.long v)), σ')) (k : f v σ' = r) : lm_bind (lm_asL y) f σ = r := (lm_bd_ok (lm_asL_ok hc)).trans k
theorem lm_cR {f : Nat → lm_M β} {v : Nat} (hc : y σ = some (.ok (some (.ref v)), σ')) (k : f v σ' = r) : lm_bind (lm_asR y) f σ = r := (lm_bd_ok (lm_asR_ok hc)).trans k
theorem lm_cVe {f : Unit → lm_M β} {q : Nat} (hc : y σ = some (.error q, σ')) : lm_bind (lm_asV y) f σ = some (.error q, σ') := lm_bd_err (lm_bd_err hc)
theorem lm_cIe {f : Int32 → lm_M β} {q : Nat} (hc : y σ = some (.error q, σ')) : lm_bind (lm_asI y) f σ = some (.error q, σ') := lm_bd_err (lm_bd_err hc)
theorem lm_iT {c : Jvm.ClassFile.Cond} {x z : Int32} {a b : lm_M lm_R} {r : Option (Except Nat lm_R × lm_S)} (h : lm_cmp c x z) (k : a σ = r) : lm_if c x z a b σ = r := by rw [lm_if_t h]; exact k
theorem lm_iF {c : Jvm.ClassFile.Cond} {x z : Int32} {a b : lm_M lm_R} {r : Option (Except Nat lm_R × lm_S)} (h : ¬ lm_cmp c x z) (k : b σ = r) : lm_if c x z a b σ = r := by rw [lm_if_f h]; exact k
theorem lm_iW {p : Prop} {q : Decidable p} {a : lm_M lm_R} {r : Option (Except Nat lm_R × lm_S)} (h : p) (k : a σ = r) : lm_when p q a σ = r := by rw [lm_when_t h]; exact k
theorem lm_tOk {α : Type} {z : lm_M α} {hs : List (Nat × Nat)} {ok : α → lm_M lm_R} {ca : Nat → Nat → lm_M lm_R} {v : α} {r : Option (Except Nat lm_R × lm_S)} (hc : z σ = some (.ok v, σ')) (k : ok v σ' = r) : lm_try z hs ok ca σ = r := by
  unfold lm_try
  rw [hc]
  exact k
theorem lm_tEr {α : Type} {z : lm_M α} {hs : List (Nat × Nat)} {ok : α → lm_M lm_R} {ca : Nat → Nat → lm_M lm_R} {q pc : Nat} {r : Option (Except Nat lm_R × lm_S)} (hc : z σ = some (.error q, σ')) (hf : lm_find hs (lm_cls σ'.1 q) = some pc) (k : ca pc q σ' = r) : lm_try z hs ok ca σ = r := by
  unfold lm_try
  rw [hc]
  dsimp only
  rw [hf]
  exact k
end LMMC
/-! room, throwing -/
def lm_rom (x : lm_H × Nat × Nat) : Prop := 362 + x.1.length + 1 < lm_B ∧ 1 ≤ x.2.1 ∧ 6 ≤ x.2.2
def lm_xx (k : Nat) (x : lm_H × Nat × Nat) : lm_H × Nat × Nat := (x.1 ++ [.inr (.inr (.inr (k, [])))], x.2.1 - 1, x.2.2 - 6)
def lm_xp (x : lm_H × Nat × Nat) : Nat := 362 + x.1.length
theorem lm_wT {α : Type} {k : Nat} {m : lm_MI} {n : lm_ML} {x : lm_H × Nat × Nat} (h : lm_rom x) : (lm_thr k : lm_M α) (lm_w m n x) = some (.error (lm_xp x), lm_w m n (lm_xx k x)) := by
  have e : (lm_mkD 362 [] m n ++ x.1).length = 362 + x.1.length := by rw [List.length_append, lm_mk_len]
  unfold lm_w lm_W
  rw [lm_thr_ok (by rw [e]; exact h.1) h.2.1 h.2.2, e]
  unfold lm_xx lm_xp
  rw [List.append_assoc]
theorem lm_wC {k : Nat} {m : lm_MI} {n : lm_ML} {x : lm_H × Nat × Nat} (h : lm_rom x) : lm_cls (lm_w m n (lm_xx k x)).1 (lm_xp x) = some k := by
  unfold lm_w lm_W lm_xx lm_xp lm_cls
  dsimp only
  rw [List.getElem?_append_right (by rw [lm_mk_len]; omega), lm_mk_len, List.getElem?_append_right (by omega), show 362 + x.1.length - 362 - x.1.length = 0 by omega]
  have : 362 + x.1.length < lm_B := by have := h.1; omega
  show (if 362 + x.1.length < lm_B then some k else none) = some k
  rw [if_pos this]
theorem lm_eC {k pc : Nat} {m : lm_MI} {n : lm_ML} {x : lm_H × Nat × Nat} {hs : List (Nat × Nat)} (h : lm_rom x) (hf : lm_find hs (some k) = some pc) : lm_find hs (lm_cls (lm_w m n (lm_xx k x)).1 (lm_xp x)) = some pc := by
  rw [lm_wC h]
  exact hf
/-! the law's long[1], the first of the further cells -/
def lm_so (v : Int64) (x : lm_H × Nat × Nat) : lm_H × Nat × Nat := (x.1.set 0 (.inr (.inl [v])), x.2)
def lm_ho (x : lm_H × Nat × Nat) : Prop := ∃ v ex, x.1 = .inr (.inl [v]) :: ex
def lm_gv (x : lm_H × Nat × Nat) : Int64 := match x.1 with
  | .inr (.inl [v]) :: _ => v
  | _ => 0
section LMOU
variable {β : Type} {sc : lm_H} {m : lm_MI} {n : lm_ML} {x : lm_H × Nat × Nat} {v : Int64} {k : Nat} {r : Option (Except Nat β × lm_S)}
theorem lm_ho.so (h : lm_ho x) : lm_ho (lm_so v x) := by
  obtain ⟨w, ex, e⟩ := h
  exact ⟨v, ex, by unfold lm_so; rw [e]; rfl⟩
theorem lm_ho.xx (h : lm_ho x) : lm_ho (lm_xx k x) := by
  obtain ⟨w, ex, e⟩ := h
  exact ⟨w, ex ++ [.inr (.inr (.inr (k, [])))], by unfold lm_xx; rw [e]; rfl⟩
theorem lm_gv_so (h : lm_ho x) : lm_gv (lm_so v x) = v := by
  obtain ⟨w, ex, e⟩ := h
  unfold lm_gv lm_so
  rw [e]
  rfl
theorem lm_wO {f : Unit → lm_M β} (h : lm_ho x) (k : f () (lm_w m n (lm_so v x)) = r) : lm_bind (lm_last 362 (Int32.ofNat 0) v) f (lm_w m n x) = r := by
  obtain ⟨w, ex, e⟩ := h
  rw [← k]
  refine lm_bd_ok ((lm_last_ok (xs := [w]) (a := 0) ?_ (by decide) (by simp) (by simp)).trans ?_)
  · rw [List.getElem?_append_right (by rw [lm_mk_len]; omega), lm_mk_len, e]
    rfl
  · unfold lm_so lm_w lm_W
    rw [List.set_append_right _ _ (by rw [lm_mk_len]; omega), lm_mk_len]
    rfl
theorem lm_rO {f : Int64 → lm_M β} (h : lm_ho x) (k : f (lm_gv x) (lm_w m n x) = r) : lm_bind (lm_lald sc 362 (Int32.ofNat 0)) f (lm_w m n x) = r := by
  obtain ⟨w, ex, e⟩ := h
  rw [← k]
  refine lm_bd_ok ((lm_lald_ok (xs := [w]) (a := 0) ?_ (by simp) (by simp)).trans ?_)
  · rw [lm_cell_h (by decide), List.getElem?_append_right (by rw [lm_mk_len]; omega), lm_mk_len, e]
    rfl
  · have hg : lm_gv x = w := by
      unfold lm_gv
      rw [e]
    rw [hg]
    rfl
end LMOU
