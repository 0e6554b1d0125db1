/-! ===== THE START: what holds at the law's entry gives the tie ===== -/
/-- the static arrays' cells, as the start has them -/
def lm_sv : List lm_C := [.inl (0, [0, 32, 48, 64, 28, 28, 32, 28, 32, 48, 64, 32, 64]),
  .inr (.inl [7640891576956012808, -4942790177534073029, 4354685564936845355, -6534734903238641935, 5840696475078001361, -7276294671716946913, 2270897969802886507, 6620516959819538809, -3766243637369397544, 7105036623409894663, -7973340178411365097, 1526699215303891257, 7436329637833083697, -8163818279084223215, -2662702644619276377, 5167115440072839076]),
  .inr (.inl [-8341449602262348382, 8350123849800275158, 2160240930085379202, 7466358040605728719, 1111592415079452072, 8638871050018654530, 4583966954114332360, 1230299281376055969]),
  .inr (.inl [2463787394917988140, -6965556091613846334, 2563595384472711505, -7622211418569250115, -7626776825740460061, -4729309413028513390, 3098927326965381290, 1060366662362279074]),
  .inr (.inl [4794697086780616226, 8158064640168781261, -5349999486874862801, -1606136188198331460, 4131703408338449720, 6480981068601479193, -7908458776815382629, -6116909921290321640, -2880145864133508542, 1334009975649890238, 2608012711638119052, 6128411473006802146, 8268148722764581231, -9160688886553864527, -7215885187991268811, -4495734319001033068, -1973867731355612462, -1171420211273849373, 1135362057144423861, 2597628984639134821, 3308224258029322869, 5365058923640841347, 6679025012923562964, 8573033837759648693, -7476448914759557205, -6327057829258317296, -5763719355590565569, -4658551843659510044, -4116276920077217854, -3051310485924567259, 489312712824947311, 1452737877330783856, 2861767655752347644, 3322285676063803686, 5560940570517711597, 5996557281743188959, 7280758554555802590, 8532644243296465576, -9096487096722542874, -7894198246740708037, -6719396339535248540, -6333637450476146687, -4446306890439682159, -4076793802049405392, -3345356375505022440, -2983346525034927856, -860691631967231958, 1182934255886127544, 1847814050463011016, 2177327727835720531, 2830643537854262169, 3796741975233480872, 4115178125766777443, 5681478168544905931, 6601373596472566643, 7507060721942968483, 8399075790359081724, 8693463985226723168, -8878714635349349518, -8302665154208450068, -8016688836872298968, -6606660893046293015, -4685533653050689259, -4147400797238176981, -3880063495543823972, -3348786107499101689, -1523767162380948706, -757361751448694408, 500013540394364858, 748580250866718886, 1242879168328830382, 1977374033974150939, 2944078676154940804, 3659926193048069267, 4368137639120453308, 4836135668995329356, 5532061633213252278, 6448918945643986474, 6902733635092675308, 7801388544844847127]),
  .inr (.inl [1, 32898, -9223372036854742902, -9223372034707259392, 32907, 2147483649, -9223372034707259263, -9223372036854743031, 138, 136, 2147516425, 2147483658, 2147516555, -9223372036854775669, -9223372036854742903, -9223372036854743037, -9223372036854743038, -9223372036854775680, 32778, -9223372034707292150, -9223372034707259263, -9223372036854742912, 2147483649, -9223372034707259384]),
  .inl (0, [4, 6, 8]),
  .inl (0, [4, 5, 7]),
  .inl (0, [2, 4, 2]),
  .inl (1, [6, 9, 96, -122, 72, 1, 101, 3, 4, 2]),
  .inl (0, [131072, 524288, 524288]),
  .inl (0, [95232, 261888, 261888]),
  .inl (0, [32, 48, 64]),
  .inl (0, [39, 49, 60]),
  .inl (0, [80, 55, 75]),
  .inl (0, [16, 16, 24, 24, 32, 32]),
  .inl (0, [7, 22, 7, 22, 8, 17]),
  .inl (0, [63, 66, 63, 66, 64, 68]),
  .inl (0, [12, 6, 14, 8, 14, 9]),
  .inl (0, [14, 33, 17, 33, 22, 35])]
/-- the static cells: the script, then the static arrays -/
def lm_sc (xs : List Int32) : lm_H := .inl (0, xs) :: lm_sv
def lm_nar : List Cond := flatC (Jvm.Cond.and given_1 narrow_1)
def lm_uty (u : Nat) : FieldType := match u with
  | 1 => .byte
  | _ => .int
def lm_svW (q : (String × String × String) × lm_C) : List Cond := match q.2 with
  | .inl (u, xs) => .arrayOf (.static q.1.1 q.1.2.1 q.1.2.2) (lm_uty u) :: .eq (.length (.static q.1.1 q.1.2.1 q.1.2.2)) (.int (Int32.ofNat xs.length)) :: xs.zipIdx.map (fun z => .eq (.elem (.static q.1.1 q.1.2.1 q.1.2.2) (.int (Int32.ofNat z.2))) (.int z.1))
  | .inr (.inl xs) => .arrayOf (.static q.1.1 q.1.2.1 q.1.2.2) .long :: .eq (.length (.static q.1.1 q.1.2.1 q.1.2.2)) (.int (Int32.ofNat xs.length)) :: xs.zipIdx.map (fun z => .eq (.elem (.static q.1.1 q.1.2.1 q.1.2.2) (.int (Int32.ofNat z.2))) (.long z.1))
  | _ => []
def lm_svI : List (Nat × Nat) := [(218, 15), (234, 18), (253, 10), (264, 10), (275, 82), (358, 26), (385, 5), (391, 5), (397, 5), (403, 12), (416, 5), (422, 5), (428, 5), (434, 5), (440, 5), (446, 8), (455, 8), (464, 8), (473, 8), (482, 8)]
set_option maxRecDepth 1000000 in
set_option maxHeartbeats 8000000 in
theorem lm_k_sv : (lm_sts.zip lm_sv).map lm_svW = lm_svI.map (fun i => (lm_nar.drop i.1).take i.2) := rfl
def lm_svB (c : lm_C) : Bool := match c with
  | .inl (u, xs) => (Nat.beq u 0 || Nat.beq u 1) && Nat.blt xs.length 1000
  | .inr (.inl xs) => Nat.blt xs.length 1000
  | _ => false
theorem lm_k_svB : lm_sv.all lm_svB = true := by decide +kernel
theorem lm_k_svl : lm_sts.length = lm_sv.length := by decide +kernel
theorem lm_k_svF : lm_sv.all (fun c => match c with | .inl (1, xs) => xs.all (fun x => fits .byte (.int x)) | _ => true) = true := by decide +kernel
def lm_stI : List (Nat × Nat) := [(900, 1), (920, 7), (931, 7), (934, 7), (971, 7), (992, 5), (1303, 12), (1305, 12), (1340, 12), (1406, 8), (1451, 12), (1465, 12), (1472, 12), (1479, 12), (1509, 12), (1561, 13), (1563, 13), (1565, 13), (1567, 13), (1569, 13)]
set_option maxRecDepth 1000000 in
set_option maxHeartbeats 8000000 in
theorem lm_k_stl : lm_sts.map (fun q => some (Cond.laysStatic q.1 q.2.1 q.2.2)) = lm_stI.map (fun i => tables_1[i.1]?) := rfl
set_option maxRecDepth 1000000 in
set_option maxHeartbeats 8000000 in
theorem lm_k_sti : lm_sts.map (fun q => some (Cond.initialized q.1)) = lm_stI.map (fun i => tables_1[i.2]?) := rfl
set_option maxRecDepth 1000000 in
set_option maxHeartbeats 8000000 in
theorem lm_k_str : lm_strs.map (fun q => some (Cond.stringRef q.1 q.2.1 q.2.2)) = ([511, 560, 567, 864, 1117, 1167, 1230, 1333, 1480, 1519] : List Nat).map (fun i => tables_1[i]?) := rfl
set_option maxRecDepth 1000000 in
set_option maxHeartbeats 8000000 in
theorem lm_k_wx : lm_wx.map some = ([469, 553, 1110, 1160, 1223, 914, 923, 962, 995, 1002, 1011, 1061, 1083, 1151, 942, 993, 1409, 1654, 46, 71, 44, 232, 1741, 1744, 471, 473, 475] : List Nat).map (fun i => tables_1[i]?) := rfl
def lm_ncP : List (String × String) := [("java/lang/IndexOutOfBoundsException", "java/lang/IllegalArgumentException"), ("java/lang/IndexOutOfBoundsException", "java/lang/IllegalStateException"), ("java/lang/IndexOutOfBoundsException", "java/lang/ArithmeticException"), ("java/lang/IndexOutOfBoundsException", "java/lang/UnsupportedOperationException"), ("java/lang/IllegalArgumentException", "java/lang/IndexOutOfBoundsException"), ("java/lang/IllegalArgumentException", "java/lang/IllegalStateException"), ("java/lang/IllegalArgumentException", "java/lang/ArithmeticException"), ("java/lang/IllegalArgumentException", "java/lang/UnsupportedOperationException"), ("java/lang/IllegalStateException", "java/lang/IndexOutOfBoundsException"), ("java/lang/IllegalStateException", "java/lang/IllegalArgumentException"), ("java/lang/IllegalStateException", "java/lang/ArithmeticException"), ("java/lang/IllegalStateException", "java/lang/UnsupportedOperationException"), ("java/lang/ArithmeticException", "java/lang/IndexOutOfBoundsException"), ("java/lang/ArithmeticException", "java/lang/IllegalArgumentException"), ("java/lang/ArithmeticException", "java/lang/IllegalStateException"), ("java/lang/ArithmeticException", "java/lang/UnsupportedOperationException"), ("java/lang/UnsupportedOperationException", "java/lang/IndexOutOfBoundsException"), ("java/lang/UnsupportedOperationException", "java/lang/IllegalArgumentException"), ("java/lang/UnsupportedOperationException", "java/lang/IllegalStateException"), ("java/lang/UnsupportedOperationException", "java/lang/ArithmeticException")]
set_option maxRecDepth 1000000 in
set_option maxHeartbeats 8000000 in
theorem lm_k_nc : lm_ncP.map (fun q => some (Cond.not (.castable q.1 q.2))) = ([518, 536, 554, 572, 501, 537, 555, 573, 504, 522, 559, 577, 505, 523, 541, 578, 506, 524, 542, 560] : List Nat).map (fun i => lm_nar[i]?) := rfl
set_option maxRecDepth 1000000 in
set_option maxHeartbeats 8000000 in
theorem lm_k_in : (lm_cl.map (fun q => some (Cond.instantiable q.1 (cond (Nat.beq q.2.2 0) 6 q.2.2)))) = ([36, 45, 70, 76, 201, 76, 132, 156, 226, 296, 367, 1734, 468, 552, 1109, 1159, 1222] : List Nat).map (fun i => tables_1[i]?) := rfl
def lm_thw : List Cond := [.laysStatic "java/lang/Throwable" "UNASSIGNED_STACK" "[Ljava/lang/StackTraceElement;", .laysStatic "java/lang/Throwable" "SUPPRESSED_SENTINEL" "Ljava/util/List;", .initialized "java/lang/Throwable"]
set_option maxRecDepth 1000000 in
theorem lm_k_th : lm_thw.map some = ([494, 496, 15] : List Nat).map (fun i => tables_1[i]?) := rfl
def lm_thf : List Cond := [.isRef (.static "java/lang/Throwable" "UNASSIGNED_STACK" "[Ljava/lang/StackTraceElement;"), .isRef (.static "java/lang/Throwable" "SUPPRESSED_SENTINEL" "Ljava/util/List;")]
set_option maxRecDepth 1000000 in
theorem lm_k_tf : lm_thf.map some = ([4, 5] : List Nat).map (fun i => lm_nar[i]?) := rfl
def lm_acw : List Cond := [.arrayClass .int, .arrayClass .byte, .arrayClass .boolean, .arrayClass .long]
set_option maxRecDepth 1000000 in
theorem lm_k_ac : lm_acw.map some = ([154, 68, 2046, 130] : List Nat).map (fun i => tables_1[i]?) := rfl
theorem lm_in_of {α β : Type} {l : List α} {f : α → β} {ks : List Nat} {T : List β} (h : l.map (fun x => some (f x)) = ks.map (fun k => T[k]?)) {x : α} (hx : x ∈ l) : f x ∈ T := by
  have h1 : some (f x) ∈ l.map (fun x => some (f x)) := List.mem_map.mpr ⟨x, hx, rfl⟩
  rw [h] at h1
  obtain ⟨k, -, hk⟩ := List.mem_map.mp h1
  exact List.mem_of_getElem? hk
section LMZ
variable {s : State} {args : Array Value}
theorem lm_tc0 {c : ClassId} {k : Class} {comp : ClassId} {ty : FieldType} (h1 : s.vm.classes[c]? = some k) (h2 : k.kind = .array comp ty) : ArrOfT s c ty := fun n z => ⟨fun k h => (by cases h), k, h1, comp, h2⟩
theorem lm_tc1 {ty : FieldType} (hty : ∀ C, ty ≠ .object C) (h : (Cond.arrayClass ty).before args s = true) : ∃ c, ArrOfT s c ty ∧ va_RA s c ty := by
  obtain ⟨c, k, comp, h1, h2, h3⟩ := Cond.arrayClass_spec h
  refine ⟨c, lm_tc0 h2 h3, ?_⟩
  unfold va_RA
  split
  · exact absurd rfl (hty _)
  · exact h1
theorem lm_tc2 {ty : FieldType} (h : (Cond.arrayOver (.array ty)).before args s = true) : ∃ c, ArrOfT s c (.array ty) ∧ va_RA s c (.array ty) := by
  obtain ⟨comp, c, k, h1, h2, h3, h4, h5⟩ := arrayOverA_spec h
  exact ⟨c, lm_tc0 h3 h4, h5⟩
theorem lm_tc3 {C : String} (h : (Cond.arrayOver (.object C)).before args s = true) : ∃ c, ArrOfT s c (.object C) ∧ va_RA s c (.object C) := by
  obtain ⟨comp, c, k, h1, h2, h3, h4, h5⟩ := Cond.arrayOver_spec h
  exact ⟨c, lm_tc0 h3 h4, k, comp, h3, h4, h1, h5⟩
theorem lm_T_arr {ty : FieldType} {t N : Nat} {f : Nat → Value} {A : Nat → Prop} (h : va_T ty t N f A s s.heap) : lm_arr s s.heap t ty N f ∧ t < s.heap.size := by
  obtain ⟨cell, h1, h2, h3, h4, h5, h6, -⟩ := h
  exact ⟨⟨cell, h1, h2, h3, h2.1, ⟨h4, h5⟩, h6⟩, (Array.getElem?_eq_some_iff.mp h1).1⟩
/-- a static array: where it lies, what it holds -/
theorem lm_stat (hw : ∀ w ∈ tables_1, w.before args s = true) (hf : ∀ w ∈ lm_nar, w.before args s = true) {k : Nat} {q : String × String × String} {c : lm_C} (hq : lm_sts[k]? = some q) (hc : lm_sv[k]? = some c) : ∃ t, va_Z q.1 q.2.1 q.2.2 (.ref t) (fun x => s.heap.size ≤ x) s s.heap ∧ lm_sat s s.heap t c ∧ t < s.heap.size := by
  have hm : q ∈ lm_sts := List.mem_of_getElem? hq
  have hl := hw _ (lm_in_of (f := fun q : String × String × String => Cond.laysStatic q.1 q.2.1 q.2.2) (ks := lm_stI.map (fun i => i.1)) (by rw [List.map_map]; exact lm_k_stl) hm)
  have hi := hw _ (lm_in_of (f := fun q : String × String × String => Cond.initialized q.1) (ks := lm_stI.map (fun i => i.2)) (by rw [List.map_map]; exact lm_k_sti) hm)
  have hA : ∀ a : Nat, a < s.heap.size → ¬ s.heap.size ≤ a := fun a h => Nat.not_le.mpr h
  have hz : (q, c) ∈ lm_sts.zip lm_sv := by
    have : (lm_sts.zip lm_sv)[k]? = some (q, c) := by
      rw [List.getElem?_zip_eq_some]
      exact ⟨hq, hc⟩
    exact List.mem_of_getElem? this
  have hel : ∀ w ∈ lm_svW (q, c), w.before args s = true := by
    have h1 : lm_svW (q, c) ∈ (lm_sts.zip lm_sv).map lm_svW := List.mem_map.mpr ⟨_, hz, rfl⟩
    rw [lm_k_sv] at h1
    obtain ⟨i, -, hi⟩ := List.mem_map.mp h1
    intro w hw9
    rw [← hi] at hw9
    exact hf w (List.mem_of_mem_drop (List.mem_of_mem_take hw9))
  have hB := List.all_eq_true.mp lm_k_svB c (List.mem_of_getElem? hc)
  unfold lm_svB at hB
  split at hB
  · rename_i u xs
    simp only [Bool.and_eq_true, Bool.or_eq_true, Nat.beq_eq, Nat.blt_eq] at hB
    have hN : xs.length < 2 ^ 31 := by omega
    have e1 : (Cond.arrayOf (.static q.1 q.2.1 q.2.2) (lm_uty u)).before args s = true := hel _ List.mem_cons_self
    have e2 := va_eqt (hel _ (List.mem_cons_of_mem _ List.mem_cons_self))
    have e3 : ∀ j : Nat, j < xs.length → (Term.elem (.static q.1 q.2.1 q.2.2) (.int (Int32.ofNat j))).eval args s none [] s = some (.int (xs.getD j 0)) := fun j hj => by
      refine va_eqt (hel _ (List.mem_cons_of_mem _ (List.mem_cons_of_mem _ (List.mem_map.mpr ⟨(xs.getD j 0, j), ?_, rfl⟩))))
      rw [List.mk_mem_zipIdx_iff_getElem?, List.getD_eq_getElem?_getD, List.getElem?_eq_getElem hj]
      rfl
    obtain ⟨t, ht, hT⟩ := va_Tof (f := fun j => .int (xs.getD j 0)) hN e1 e2 e3 hA
    obtain ⟨a1, a2⟩ := lm_T_arr hT
    refine ⟨t, va_Zref hl hi ht hA, ⟨_, ?_, a1⟩, a2⟩
    rcases hB.1 with rfl | rfl
    · exact Or.inl ⟨rfl, rfl⟩
    · exact Or.inr ⟨rfl, rfl⟩
  · rename_i xs
    simp only [Nat.blt_eq] at hB
    have hN : xs.length < 2 ^ 31 := by omega
    have e2 := va_eqt (hel _ (List.mem_cons_of_mem _ List.mem_cons_self))
    have e3 : ∀ j : Nat, j < xs.length → (Term.elem (.static q.1 q.2.1 q.2.2) (.int (Int32.ofNat j))).eval args s none [] s = some (.long (xs.getD j 0)) := fun j hj => by
      refine va_eqtl (hel _ (List.mem_cons_of_mem _ (List.mem_cons_of_mem _ (List.mem_map.mpr ⟨(xs.getD j 0, j), ?_, rfl⟩))))
      rw [List.mk_mem_zipIdx_iff_getElem?, List.getD_eq_getElem?_getD, List.getElem?_eq_getElem hj]
      rfl
    obtain ⟨t, ht, hT⟩ := va_Tof (f := fun j => .long (xs.getD j 0)) hN (hel _ List.mem_cons_self) e2 e3 hA
    obtain ⟨a1, a2⟩ := lm_T_arr hT
    exact ⟨t, va_Zref hl hi ht hA, a1, a2⟩
  · cases hB
theorem lm_str_at (hw : ∀ w ∈ tables_1, w.before args s = true) {q : String × Nat × String} (hq : q ∈ lm_strs) : ∃ a, vk_R q.1 q.2.1 q.2.2 a s := by
  have h1 := hw _ (lm_in_of (f := fun q : String × Nat × String => Cond.stringRef q.1 q.2.1 q.2.2) lm_k_str hq)
  have h2 : (Cond.stringRef q.1 q.2.1 q.2.2).before #[] s = true := h1
  cases hc : s.vm.findClass q.1 with
  | none => simp [Cond.before, Cond.holds, Cond.value, hc] at h2
  | some cur =>
    obtain ⟨k, cf, i, a, -, -, -, -, -, h3⟩ := Cond.stringRef_spec hc h2
    exact ⟨a, h2, h3⟩
theorem lm_wx_at {w : Cond} (hw : w ∈ lm_wx) (h : w.before args s = true) : va_Nw w s := by
  simp only [lm_wx, List.mem_cons, List.not_mem_nil, or_false] at hw
  rcases hw with rfl | rfl | rfl | rfl | rfl | rfl | rfl | rfl | rfl | rfl | rfl | rfl | rfl | rfl | rfl | rfl | rfl | rfl | rfl | rfl | rfl | rfl | rfl | rfl | rfl | rfl | rfl
  all_goals first | exact va_Nw.of rfl h | exact h
theorem lm_k_ncA : lm_exs.all (fun x => lm_exs.all (fun y => decide (x = y) || lm_ncP.any (fun q => decide (q = (x, y))))) = true := by decide +kernel
theorem lm_Ex_at (hw : ∀ w ∈ tables_1, w.before args s = true) (hf : ∀ w ∈ lm_nar, w.before args s = true) {ad : Nat → Nat} (had : ∀ (k : Nat) (q : String × String × String), lm_sts[k]? = some q → va_Z q.1 q.2.1 q.2.2 (.ref (ad (lm_B + (k + 1)))) (fun x => s.heap.size ≤ x) s s.heap) : lm_Ex ad s.heap.size s := by
  have hA : ∀ a : Nat, a < s.heap.size → ¬ s.heap.size ≤ a := fun a h => Nat.not_le.mpr h
  have t1 : ∀ w ∈ lm_thw, w.before args s = true := fun w h => hw w (lm_in_of (f := fun w => w) lm_k_th h)
  have t2 : ∀ w ∈ lm_thf, w.before args s = true := fun w h => hf w (lm_in_of (f := fun w => w) lm_k_tf h)
  have b1 := t1 _ List.mem_cons_self
  have b2 := t1 _ (List.mem_cons_of_mem _ List.mem_cons_self)
  have b3 := t1 _ (List.mem_cons_of_mem _ (List.mem_cons_of_mem _ List.mem_cons_self))
  refine ⟨had, fun q hq => lm_str_at hw hq, ⟨va_Zqof b1 b3 (t2 _ List.mem_cons_self) hA, b1⟩, ⟨va_Zqof b2 b3 (t2 _ (List.mem_cons_of_mem _ List.mem_cons_self)) hA, b2⟩, fun w h => lm_wx_at h (hw w (lm_in_of (f := fun w => w) lm_k_wx h)), fun x hx y hy hn => ?_⟩
  have h1 := List.all_eq_true.mp (List.all_eq_true.mp lm_k_ncA x hx) y hy
  simp only [Bool.or_eq_true, decide_eq_true_eq, List.any_eq_true] at h1
  rcases h1 with h1 | ⟨q, hq, rfl⟩
  · exact absurd h1 hn
  · exact va_Nc.of (hf _ (lm_in_of (f := fun q : String × String => Cond.not (.castable q.1 q.2)) lm_k_nc hq))
theorem lm_K_at (hw : ∀ w ∈ tables_1, w.before args s = true) (hw0 : ∀ w ∈ lm_W0, w.before args s = true) : ∃ (D : va_G) (tc : Nat → ClassId), va_K D lm_cl (lm_tys tc) s := by
  have h1 : ∀ ci : Nat, ∃ (cC : ClassId) (iS : Nat → Nat), ∀ q, lm_cl[ci]? = some q → u_Kn s q.1 q.2.1 q.2.2 cC iS := by
    intro ci
    cases hq : lm_cl[ci]? with
    | none => exact ⟨0, fun _ => 0, fun q h => by cases h⟩
    | some q =>
      obtain ⟨cC, iS, h⟩ := u_known (n := cond (Nat.beq q.2.2 0) 6 q.2.2) hw0 ((lm_clPk ci q.1 q.2.1 q.2.2 hq).1) (hw _ (lm_in_of (f := fun q : vw_C => Cond.instantiable q.1 (cond (Nat.beq q.2.2 0) 6 q.2.2)) lm_k_in (List.mem_of_getElem? hq)))
      exact ⟨cC, iS, fun q' e => by cases e; exact h⟩
  have ac : ∀ w ∈ lm_acw, w.before args s = true := fun w h => hw w (lm_in_of (f := fun w => w) lm_k_ac h)
  have wx : ∀ w ∈ lm_wx, w.before args s = true := fun w h => hw w (lm_in_of (f := fun w => w) lm_k_wx h)
  obtain ⟨c0, k0⟩ := lm_tc1 (ty := .int) (fun _ h => by cases h) (ac _ (by simp [lm_acw]))
  obtain ⟨c1, k1⟩ := lm_tc1 (ty := .byte) (fun _ h => by cases h) (ac _ (by simp [lm_acw]))
  obtain ⟨c2, k2⟩ := lm_tc1 (ty := .boolean) (fun _ h => by cases h) (ac _ (by simp [lm_acw]))
  obtain ⟨c7, k7⟩ := lm_tc1 (ty := .long) (fun _ h => by cases h) (ac _ (by simp [lm_acw]))
  obtain ⟨c3, k3⟩ := lm_tc2 (ty := .int) (wx _ (List.mem_of_getElem? (i := 21) rfl))
  obtain ⟨c4, k4⟩ := lm_tc2 (ty := .byte) (wx _ (List.mem_of_getElem? (i := 22) rfl))
  obtain ⟨c5, k5⟩ := lm_tc2 (ty := .boolean) (wx _ (List.mem_of_getElem? (i := 23) rfl))
  obtain ⟨c6, k6⟩ := lm_tc3 (C := "LatticeSuite$Bytes") (wx _ (List.mem_of_getElem? (i := 20) rfl))
  refine ⟨(fun ci => (h1 ci).choose, fun ci => (h1 ci).choose_spec.choose), fun k => match k with | 0 => c0 | 1 => c1 | 2 => c2 | 3 => c3 | 4 => c4 | 5 => c5 | 6 => c6 | _ => c7, fun ci q hq => (h1 ci).choose_spec.choose_spec q hq, fun k q hk => ?_⟩
  have hm := List.mem_of_getElem? hk
  simp only [lm_tys, List.mem_cons, List.not_mem_nil, or_false] at hm
  rcases hm with rfl | rfl | rfl | rfl | rfl | rfl | rfl | rfl
  · exact k0
  · exact k1
  · exact k2
  · exact k3
  · exact k4
  · exact k5
  · exact k6
  · exact k7
theorem lm_okH_sc (xs : List Int32) : lm_okH (lm_sc xs) := by
  intro q c hq ys hc x hx
  cases q with
  | zero => cases hq; cases hc
  | succ q =>
    have hq : lm_sv[q]? = some c := hq
    have h1 := List.all_eq_true.mp lm_k_svF c (List.mem_of_getElem? hq)
    rw [hc] at h1
    exact List.all_eq_true.mp h1 x hx
theorem lm_ad_ex (B b0 sz : Nat) (f : Nat → Nat) : ∃ ad : Nat → Nat, (∀ q, q < B → ad q = sz + q) ∧ ad B = b0 ∧ ∀ k, ad (B + (k + 1)) = f k := by
  refine ⟨fun q => if q < B then sz + q else if q = B then b0 else f (q - B - 1), fun q hq => if_pos hq, ?_, fun k => ?_⟩
  · show (if B < B then sz + B else if B = B then b0 else f (B - B - 1)) = b0
    rw [if_neg (Nat.lt_irrefl _), if_pos rfl]
  · show (if B + (k + 1) < B then sz + (B + (k + 1)) else if B + (k + 1) = B then b0 else f (B + (k + 1) - B - 1)) = f k
    rw [if_neg (by omega), if_neg (by omega)]
    congr 1
    omega
/-- the tie at the law's start -/
theorem lm_start (hw : ∀ w ∈ tables_1, w.before args s = true) (hw0 : ∀ w ∈ lm_W0, w.before args s = true) (hf : ∀ w ∈ lm_nar, w.before args s = true) {b0 : Nat} {xs : List Int32} (hX : va_X b0 xs.length (fun j => xs.getD j 0) s s.heap) : ∃ (D : va_G) (tc : Nat → ClassId) (ad : Nat → Nat), lm_G D lm_cl tc ad (lm_sc xs) s.heap.size s ∧ ad lm_B = b0 := by
  obtain ⟨D, tc, hK⟩ := lm_K_at hw hw0
  have h1 : ∀ k : Nat, ∃ t : Nat, ∀ q c, lm_sts[k]? = some q → lm_sv[k]? = some c → va_Z q.1 q.2.1 q.2.2 (.ref t) (fun x => s.heap.size ≤ x) s s.heap ∧ lm_sat s s.heap t c ∧ t < s.heap.size := by
    intro k
    cases hq : lm_sts[k]? with
    | none => exact ⟨0, fun q c h => by cases h⟩
    | some q =>
      cases hc : lm_sv[k]? with
      | none => exact ⟨0, fun q c _ h => by cases h⟩
      | some c =>
        obtain ⟨t, ht⟩ := lm_stat hw hf hq hc
        exact ⟨t, fun q' c' e1 e2 => by cases e1; cases e2; exact ht⟩
  obtain ⟨ad, ad0, ad1, ad2⟩ := lm_ad_ex lm_B b0 s.heap.size (fun k => (h1 k).choose)
  refine ⟨D, tc, ad, ⟨ad0, ?_, Nat.le_refl _, hK, lm_okH_sc xs, lm_Ex_at hw hf ?_⟩, ad1⟩
  · intro k c hk
    cases k with
    | zero =>
      cases hk
      show ad lm_B < _ ∧ lm_sat s s.heap (ad lm_B) _
      rw [ad1]
      obtain ⟨scr, g1, g2, g3, g4, g5⟩ := hX
      exact ⟨(Array.getElem?_eq_some_iff.mp g1).1, .int, Or.inl ⟨rfl, rfl⟩, scr, g1, g2, g3, g2.1, ⟨by rw [g4]; exact Nat.le_refl _, by rw [g4]⟩, g5⟩
    | succ k =>
      have hk : lm_sv[k]? = some c := hk
      rw [ad2]
      have hlt := (List.getElem?_eq_some_iff.mp hk).1
      have hlt2 : k < lm_sts.length := by rw [lm_k_svl]; exact hlt
      have h2 := (h1 k).choose_spec _ _ (List.getElem?_eq_getElem hlt2) hk
      exact ⟨h2.2.2, h2.2.1⟩
  · intro k q hk
    rw [ad2]
    have hlt := (List.getElem?_eq_some_iff.mp hk).1
    have hlt2 : k < lm_sv.length := by rw [← lm_k_svl]; exact hlt
    exact ((h1 k).choose_spec _ _ hk (List.getElem?_eq_getElem hlt2)).1
end LMZ
