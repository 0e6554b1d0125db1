/-! ===== THE SHAPE of the heap behind the constructors: which cell lies where ===== -/
/-- an array (kind, length), longs, rows, an object (class, its fields: 0 an int, 1 a long, 2 a boolean, 3 one of the three hashes, r + 4 the place r) -/
abbrev lm_T : Type := (Nat × Nat) ⊕ (Nat ⊕ ((Nat × List Nat) ⊕ (Nat × List Nat)))
def lm_shp : List lm_T := [.inr (.inr (.inr (0, [5, 6, 8, 46, 48, 80, 198]))),
  .inr (.inr (.inl (6, [26, 28, 30, 32, 34, 36, 38, 40]))),
  .inr (.inr (.inr (1, [7, 0]))),
  .inl (1, 65536),
  .inr (.inr (.inr (2, [9, 15, 21, 27, 28, 29]))),
  .inr (.inr (.inr (5, [10, 0, 0, 1, 11, 0, 1, 12, 13, 14, 0]))),
  .inl (1, 168),
  .inl (1, 168),
  .inr (.inl 25),
  .inr (.inl 25),
  .inr (.inl 25),
  .inr (.inr (.inr (6, [16, 0, 0, 1, 17, 0, 1, 18, 19, 20]))),
  .inl (1, 64),
  .inl (1, 64),
  .inl (0, 8),
  .inl (0, 8),
  .inl (0, 64),
  .inr (.inr (.inr (7, [22, 0, 0, 1, 23, 0, 1, 24, 25, 26]))),
  .inl (1, 128),
  .inl (1, 128),
  .inr (.inl 8),
  .inr (.inl 8),
  .inr (.inl 80),
  .inl (1, 128),
  .inl (1, 64),
  .inl (1, 4),
  .inr (.inr (.inr (1, [31, 0]))),
  .inl (1, 65536),
  .inr (.inr (.inr (1, [33, 0]))),
  .inl (1, 65536),
  .inr (.inr (.inr (1, [35, 0]))),
  .inl (1, 65536),
  .inr (.inr (.inr (1, [37, 0]))),
  .inl (1, 65536),
  .inr (.inr (.inr (1, [39, 0]))),
  .inl (1, 65536),
  .inr (.inr (.inr (1, [41, 0]))),
  .inl (1, 65536),
  .inr (.inr (.inr (1, [43, 0]))),
  .inl (1, 65536),
  .inr (.inr (.inr (1, [45, 0]))),
  .inl (1, 65536),
  .inr (.inr (.inr (4, [8, 38, 36, 47, 0, 2]))),
  .inl (1, 332),
  .inr (.inr (.inr (8, [8, 49, 50, 51, 68, 73, 74, 75, 76, 77, 78, 79, 0, 0, 0, 0]))),
  .inl (0, 128),
  .inl (0, 128),
  .inr (.inr (.inl (3, [48, 49, 50, 51, 52, 53, 54, 55, 56, 57, 58, 59, 60, 61, 62, 63]))),
  .inl (0, 256),
  .inl (0, 256),
  .inl (0, 256),
  .inl (0, 256),
  .inl (0, 256),
  .inl (0, 256),
  .inl (0, 256),
  .inl (0, 256),
  .inl (0, 256),
  .inl (0, 256),
  .inl (0, 256),
  .inl (0, 256),
  .inl (0, 256),
  .inl (0, 256),
  .inl (0, 256),
  .inl (0, 256),
  .inr (.inr (.inl (3, [65, 66, 67, 68]))),
  .inl (0, 256),
  .inl (0, 256),
  .inl (0, 256),
  .inl (0, 256),
  .inl (0, 256),
  .inl (0, 256),
  .inl (1, 192),
  .inl (1, 34),
  .inl (1, 64),
  .inl (1, 32),
  .inl (1, 1568),
  .inr (.inr (.inr (9, [8, 81, 82, 139, 155, 164, 172, 180, 189, 190, 191, 192, 193, 194, 195, 196, 197, 0, 0, 0]))),
  .inl (0, 256),
  .inr (.inr (.inl (3, [79, 80, 81, 82, 83, 84, 85, 86, 87, 88, 89, 90, 91, 92, 93, 94, 95, 96, 97, 98, 99, 100, 101, 102, 103, 104, 105, 106, 107, 108, 109, 110, 111, 112, 113, 114, 115, 116, 117, 118, 119, 120, 121, 122, 123, 124, 125, 126, 127, 128, 129, 130, 131, 132, 133, 134]))),
  .inl (0, 256),
  .inl (0, 256),
  .inl (0, 256),
  .inl (0, 256),
  .inl (0, 256),
  .inl (0, 256),
  .inl (0, 256),
  .inl (0, 256),
  .inl (0, 256),
  .inl (0, 256),
  .inl (0, 256),
  .inl (0, 256),
  .inl (0, 256),
  .inl (0, 256),
  .inl (0, 256),
  .inl (0, 256),
  .inl (0, 256),
  .inl (0, 256),
  .inl (0, 256),
  .inl (0, 256),
  .inl (0, 256),
  .inl (0, 256),
  .inl (0, 256),
  .inl (0, 256),
  .inl (0, 256),
  .inl (0, 256),
  .inl (0, 256),
  .inl (0, 256),
  .inl (0, 256),
  .inl (0, 256),
  .inl (0, 256),
  .inl (0, 256),
  .inl (0, 256),
  .inl (0, 256),
  .inl (0, 256),
  .inl (0, 256),
  .inl (0, 256),
  .inl (0, 256),
  .inl (0, 256),
  .inl (0, 256),
  .inl (0, 256),
  .inl (0, 256),
  .inl (0, 256),
  .inl (0, 256),
  .inl (0, 256),
  .inl (0, 256),
  .inl (0, 256),
  .inl (0, 256),
  .inl (0, 256),
  .inl (0, 256),
  .inl (0, 256),
  .inl (0, 256),
  .inl (0, 256),
  .inl (0, 256),
  .inl (0, 256),
  .inl (0, 256),
  .inr (.inr (.inl (3, [136, 137, 138, 139, 140, 141, 142, 143, 144, 145, 146, 147, 148, 149, 150]))),
  .inl (0, 256),
  .inl (0, 256),
  .inl (0, 256),
  .inl (0, 256),
  .inl (0, 256),
  .inl (0, 256),
  .inl (0, 256),
  .inl (0, 256),
  .inl (0, 256),
  .inl (0, 256),
  .inl (0, 256),
  .inl (0, 256),
  .inl (0, 256),
  .inl (0, 256),
  .inl (0, 256),
  .inr (.inr (.inl (3, [152, 153, 154, 155, 156, 157, 158, 159]))),
  .inl (0, 256),
  .inl (0, 256),
  .inl (0, 256),
  .inl (0, 256),
  .inl (0, 256),
  .inl (0, 256),
  .inl (0, 256),
  .inl (0, 256),
  .inr (.inr (.inl (3, [161, 162, 163, 164, 165, 166, 167]))),
  .inl (0, 256),
  .inl (0, 256),
  .inl (0, 256),
  .inl (0, 256),
  .inl (0, 256),
  .inl (0, 256),
  .inl (0, 256),
  .inr (.inr (.inl (3, [169, 170, 171, 172, 173, 174, 175]))),
  .inl (0, 256),
  .inl (0, 256),
  .inl (0, 256),
  .inl (0, 256),
  .inl (0, 256),
  .inl (0, 256),
  .inl (0, 256),
  .inr (.inr (.inl (3, [177, 178, 179, 180, 181, 182, 183, 184]))),
  .inl (0, 256),
  .inl (0, 256),
  .inl (0, 256),
  .inl (0, 256),
  .inl (0, 256),
  .inl (0, 256),
  .inl (0, 256),
  .inl (0, 256),
  .inl (0, 256),
  .inl (0, 256),
  .inl (0, 256),
  .inl (1, 640),
  .inl (1, 128),
  .inl (1, 66),
  .inl (1, 64),
  .inl (1, 64),
  .inl (1, 84),
  .inr (.inr (.inr (10, [8, 3, 3, 2, 0, 0, 0, 0, 0, 0, 0, 0, 199, 200, 201, 202, 203, 204, 205, 206]))),
  .inl (1, 32),
  .inl (1, 32),
  .inl (1, 32),
  .inl (1, 64),
  .inl (1, 2144),
  .inl (1, 480),
  .inl (1, 64),
  .inl (0, 67),
  .inr (.inr (.inr (11, [208, 209, 218, 0, 0, 219, 220, 221, 222, 223, 224, 225, 226, 227, 228, 229, 230, 231, 0, 0, 0, 1, 232, 233, 0, 234, 235, 236, 267, 268, 269, 270, 0, 0, 0, 0, 271, 272, 273, 322, 331, 332, 0, 0, 0, 0, 0, 0, 0, 0, 333, 334, 335, 336, 337, 338, 355, 356, 357, 358, 359, 360, 361, 362, 363, 364, 365, 0, 0, 0, 0, 0, 0, 0, 2]))),
  .inl (1, 65536),
  .inr (.inr (.inl (4, [206, 207, 208, 209, 210, 211, 212, 213]))),
  .inl (1, 65536),
  .inl (1, 65536),
  .inl (1, 65536),
  .inl (1, 65536),
  .inl (1, 65536),
  .inl (1, 65536),
  .inl (1, 65536),
  .inl (1, 65536),
  .inl (0, 8),
  .inr (.inl 16),
  .inr (.inl 80),
  .inr (.inl 8),
  .inr (.inl 8),
  .inr (.inl 16),
  .inr (.inl 16),
  .inl (0, 25),
  .inr (.inl 24),
  .inr (.inl 25),
  .inr (.inl 25),
  .inr (.inl 5),
  .inr (.inl 80),
  .inl (1, 128),
  .inl (1, 128),
  .inl (1, 64),
  .inr (.inl 256),
  .inl (0, 256),
  .inr (.inr (.inl (3, [233, 234, 235, 236, 237, 238, 239, 240, 241, 242, 243, 244, 245, 246, 247, 248, 249, 250, 251, 252, 253, 254, 255, 256, 257, 258, 259, 260, 261, 262]))),
  .inl (0, 256),
  .inl (0, 256),
  .inl (0, 256),
  .inl (0, 256),
  .inl (0, 256),
  .inl (0, 256),
  .inl (0, 256),
  .inl (0, 256),
  .inl (0, 256),
  .inl (0, 256),
  .inl (0, 256),
  .inl (0, 256),
  .inl (0, 256),
  .inl (0, 256),
  .inl (0, 256),
  .inl (0, 256),
  .inl (0, 256),
  .inl (0, 256),
  .inl (0, 256),
  .inl (0, 256),
  .inl (0, 256),
  .inl (0, 256),
  .inl (0, 256),
  .inl (0, 256),
  .inl (0, 256),
  .inl (0, 256),
  .inl (0, 256),
  .inl (0, 256),
  .inl (0, 256),
  .inl (0, 256),
  .inl (1, 256),
  .inl (1, 256),
  .inl (1, 65536),
  .inl (1, 8192),
  .inl (1, 32),
  .inl (0, 512),
  .inr (.inr (.inl (3, [270, 271, 272, 273, 274, 275, 276, 277, 278, 279, 280, 281, 282, 283, 284, 285, 286, 287, 288, 289, 290, 291, 292, 293, 294, 295, 296, 297, 298, 299, 300, 301, 302, 303, 304, 305, 306, 307, 308, 309, 310, 311, 312, 313, 314, 315, 316, 317]))),
  .inl (0, 256),
  .inl (0, 256),
  .inl (0, 256),
  .inl (0, 256),
  .inl (0, 256),
  .inl (0, 256),
  .inl (0, 256),
  .inl (0, 256),
  .inl (0, 256),
  .inl (0, 256),
  .inl (0, 256),
  .inl (0, 256),
  .inl (0, 256),
  .inl (0, 256),
  .inl (0, 256),
  .inl (0, 256),
  .inl (0, 256),
  .inl (0, 256),
  .inl (0, 256),
  .inl (0, 256),
  .inl (0, 256),
  .inl (0, 256),
  .inl (0, 256),
  .inl (0, 256),
  .inl (0, 256),
  .inl (0, 256),
  .inl (0, 256),
  .inl (0, 256),
  .inl (0, 256),
  .inl (0, 256),
  .inl (0, 256),
  .inl (0, 256),
  .inl (0, 256),
  .inl (0, 256),
  .inl (0, 256),
  .inl (0, 256),
  .inl (0, 256),
  .inl (0, 256),
  .inl (0, 256),
  .inl (0, 256),
  .inl (0, 256),
  .inl (0, 256),
  .inl (0, 256),
  .inl (0, 256),
  .inl (0, 256),
  .inl (0, 256),
  .inl (0, 256),
  .inl (0, 256),
  .inr (.inr (.inl (5, [319, 320, 321, 322, 323, 324, 325, 326]))),
  .inl (2, 256),
  .inl (2, 256),
  .inl (2, 256),
  .inl (2, 256),
  .inl (2, 256),
  .inl (2, 256),
  .inl (2, 256),
  .inl (2, 256),
  .inl (1, 16384),
  .inl (1, 8192),
  .inl (1, 64),
  .inl (1, 64),
  .inl (1, 64),
  .inl (1, 64),
  .inl (1, 32),
  .inr (.inr (.inl (4, [335, 336, 337, 338, 339, 340, 341, 342, 343, 344, 345, 346, 347, 348, 349, 350]))),
  .inl (1, 64),
  .inl (1, 64),
  .inl (1, 64),
  .inl (1, 64),
  .inl (1, 64),
  .inl (1, 64),
  .inl (1, 64),
  .inl (1, 64),
  .inl (1, 64),
  .inl (1, 64),
  .inl (1, 64),
  .inl (1, 64),
  .inl (1, 64),
  .inl (1, 64),
  .inl (1, 64),
  .inl (1, 64),
  .inl (1, 2144),
  .inl (1, 2048),
  .inl (1, 32),
  .inl (1, 64),
  .inl (1, 64),
  .inl (1, 64),
  .inl (0, 67),
  .inl (1, 32),
  .inl (1, 32),
  .inl (1, 32),
  .inl (1, 32),
  .inr (.inl 1)]
set_option maxRecDepth 100000 in
theorem lm_shp_len : lm_shp.length = 363 := by decide +kernel
def lm_fok (p : Nat) (v : Value) : Prop := match p with
  | 0 => ∃ x, v = .int x
  | 1 => ∃ x, v = .long x
  | 2 => ∃ b, v = .int (lm_z b)
  | 3 => v = .ref 5 ∨ v = .ref 11 ∨ v = .ref 17
  | r + 4 => v = .ref r
def lm_fitC (t : lm_T) (h : lm_H) (q : Nat) : Prop := match t with
  | .inl (u, n) => ∃ xs, lm_vA h q u = some xs ∧ xs.length = n ∧ (u = 1 → lm_by xs) ∧ (u = 2 → ∀ x ∈ xs, ∃ b, x = lm_z b)
  | .inr (.inl n) => ∃ ls, lm_vL h q = some ls ∧ ls.length = n
  | .inr (.inr (.inl (u, rs))) => lm_vR h q = some (u, rs.map some)
  | .inr (.inr (.inr (c, ps))) => lm_vK h q = some c ∧ ∀ k p, ps[k]? = some p → ∃ v, lm_vF h q k = some v ∧ lm_fok p v
def lm_Sh (h : lm_H) : Prop := ∀ (q : Nat) (t : lm_T), lm_shp[q]? = some t → lm_fitC t h q
section LMSH
variable {h : lm_H} {o q k u n c : Nat}
theorem lm_Sh.arr (hS : lm_Sh h) (ht : lm_shp[q]? = some (.inl (u, n))) : ∃ xs, lm_vA h q u = some xs ∧ xs.length = n ∧ (u = 1 → lm_by xs) ∧ (u = 2 → ∀ x ∈ xs, ∃ b, x = lm_z b) := hS q _ ht
theorem lm_Sh.longs (hS : lm_Sh h) (ht : lm_shp[q]? = some (.inr (.inl n))) : ∃ ls, lm_vL h q = some ls ∧ ls.length = n := hS q _ ht
theorem lm_Sh.rows {rs : List Nat} (hS : lm_Sh h) (ht : lm_shp[q]? = some (.inr (.inr (.inl (u, rs))))) : lm_vR h q = some (u, rs.map some) := hS q _ ht
theorem lm_Sh.cls {ps : List Nat} (hS : lm_Sh h) (ht : lm_shp[q]? = some (.inr (.inr (.inr (c, ps))))) : lm_vK h q = some c := (hS q _ ht).1
theorem lm_Sh.fld {ps : List Nat} {p : Nat} (hS : lm_Sh h) (ht : lm_shp[q]? = some (.inr (.inr (.inr (c, ps))))) (hp : ps[k]? = some p) : ∃ v, lm_vF h q k = some v ∧ lm_fok p v := (hS q _ ht).2 k p hp
theorem lm_Sh.ref {ps : List Nat} {r : Nat} (hS : lm_Sh h) (ht : lm_shp[q]? = some (.inr (.inr (.inr (c, ps))))) (hp : ps[k]? = some (r + 4)) : lm_vF h q k = some (.ref r) := by
  obtain ⟨v, h1, h2⟩ := hS.fld ht hp
  have h2 : v = .ref r := h2
  rw [h1, h2]
/-- an array written keeps the shape -/
theorem lm_Sh.pA {ys : List Int32} (hS : lm_Sh h) (ht : lm_shp[q]? = some (.inl (u, n))) (hl : ys.length = n) (h1 : u = 1 → lm_by ys) (h2 : u = 2 → ∀ x ∈ ys, ∃ b, x = lm_z b) : lm_Sh (lm_pA h q u ys) := by
  intro p t hp
  obtain ⟨xs, hA, -⟩ := hS.arr ht
  by_cases e : q = p
  · subst e
    cases ht.symm.trans hp
    exact ⟨ys, lm_vA_pA_eq hA, hl, h1, h2⟩
  · have h9 := hS p t hp
    unfold lm_fitC at h9 ⊢
    split at h9
    · obtain ⟨zs, a1, a2⟩ := h9
      exact ⟨zs, (lm_vA_pA_ne e).trans a1, a2⟩
    · obtain ⟨zs, a1, a2⟩ := h9
      exact ⟨zs, (lm_vL_pA hA).trans a1, a2⟩
    · exact (lm_vR_pA hA).trans h9
    · exact ⟨(lm_vK_pA hA).trans h9.1, fun k p hk => by rw [lm_vF_pA hA]; exact h9.2 k p hk⟩
theorem lm_Sh.pL {ms : List Int64} (hS : lm_Sh h) (ht : lm_shp[q]? = some (.inr (.inl n))) (hl : ms.length = n) : lm_Sh (lm_pL h q ms) := by
  intro p t hp
  obtain ⟨xs, hA, -⟩ := hS.longs ht
  by_cases e : q = p
  · subst e
    cases ht.symm.trans hp
    exact ⟨ms, lm_vL_pL_eq hA, hl⟩
  · have h9 := hS p t hp
    unfold lm_fitC at h9 ⊢
    split at h9
    · obtain ⟨zs, a1, a2⟩ := h9
      exact ⟨zs, (lm_vA_pL hA).trans a1, a2⟩
    · obtain ⟨zs, a1, a2⟩ := h9
      exact ⟨zs, (lm_vL_pL_ne e).trans a1, a2⟩
    · exact (lm_vR_pL hA).trans h9
    · exact ⟨(lm_vK_pL hA).trans h9.1, fun k p hk => by rw [lm_vF_pL hA]; exact h9.2 k p hk⟩
/-- a field written keeps the shape -/
theorem lm_Sh.pf {ps : List Nat} {r : Nat} {v : Value} (hS : lm_Sh h) (ht : lm_shp[o]? = some (.inr (.inr (.inr (c, ps))))) (hr : ps[k]? = some r) (hv : lm_fok r v) : lm_Sh (lm_pf h o k v) := by
  intro p t hp
  have h9 := hS p t hp
  unfold lm_fitC at h9 ⊢
  split at h9
  · obtain ⟨zs, a1, a2⟩ := h9
    exact ⟨zs, lm_vA_pf.trans a1, a2⟩
  · obtain ⟨zs, a1, a2⟩ := h9
    exact ⟨zs, lm_vL_pf.trans a1, a2⟩
  · exact lm_vR_pf.trans h9
  · refine ⟨lm_vK_pf.trans h9.1, fun j p9 hj => ?_⟩
    by_cases e : o = p ∧ k = j
    · obtain ⟨rfl, rfl⟩ := e
      cases ht.symm.trans hp
      cases hr.symm.trans hj
      obtain ⟨w, hw, -⟩ := hS.fld ht hr
      exact ⟨v, lm_vF_pf_eq hw, hv⟩
    · rw [lm_vF_pf_ne e]
      exact h9.2 j p9 hj
/-- a cell more behind the heap keeps the shape -/
theorem lm_Sh.push {c : lm_C} (hS : lm_Sh h) (hl : 363 ≤ h.length) : lm_Sh (h ++ [c]) := by
  intro p t hp
  have hlt := (List.getElem?_eq_some_iff.mp hp).1
  rw [lm_shp_len] at hlt
  have e : (h ++ [c])[p]? = h[p]? := List.getElem?_append_left (by omega)
  have h9 := hS p t hp
  unfold lm_fitC lm_vA lm_vL lm_vR lm_vK lm_vF at h9 ⊢
  rw [e]
  exact h9
end LMSH
