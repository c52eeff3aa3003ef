def isNest : Cond → Bool
  | .fieldLinkNest .. => true
  | .methodLinkNest .. => true
  | _ => false
/-- the tables' words that every contract carries, and the nest mates' words, which stand in its premise -/
def gtbl : List Cond := lw_tbl.filter goodWord
def ntbl : List Cond := lw_tbl.filter isNest
theorem tb {w : Cond} (i : Nat) (h : tables_1[i]? = some w) (g : goodWord w = true) : w ∈ gtbl := List.mem_filter.mpr ⟨List.mem_append_right _ (List.mem_of_getElem? h), g⟩
theorem tbn {w : Cond} (i : Nat) (h : tables_1[i]? = some w) (g : isNest w = true) : w ∈ ntbl := List.mem_filter.mpr ⟨List.mem_append_right _ (List.mem_of_getElem? h), g⟩
theorem tbs {y : MethodName} {n : Nat} (i : Nat) (h : lw_privs[i]? = some (y, n)) : Cond.selects y.cls y y ∈ gtbl := List.mem_filter.mpr ⟨List.mem_append_left _ (List.mem_map.mpr ⟨(y, n), List.mem_of_getElem? h, rfl⟩), rfl⟩
theorem zin {C : String} {T : u_T} {N : Nat} (ix : List Nat) (h : ∀ k, k < N → tables_1[ix.getD k 0]? = some (u_lay C T k)) : ∀ w ∈ u_ws C T N, w ∈ gtbl := by
  intro w hw
  obtain ⟨k, hk, rfl⟩ := List.mem_map.mp hw
  refine tb _ (h k (List.mem_range.mp hk)) ?_
  unfold u_lay
  split <;> rfl
abbrev Mt : Type := MethodName × ByteArray × Nat × Option FieldType × Nat × Nat
def zT0 : u_T := fun k => match k with
  | 0 => ("QuantisedLists", "axes", "LQuantisedLists$Turn;", true)
  | 1 => ("QuantisedLists", "samples", "LQuantisedLists$Samples;", true)
  | 2 => ("QuantisedLists", "clustering", "LQuantisedLists$Clustering;", true)
  | 3 => ("QuantisedLists", "quantiser", "LQuantisedLists$Quantiser;", true)
  | 4 => ("QuantisedLists", "table", "LQuantisedLists$EntryTable;", true)
  | 5 => ("QuantisedLists", "finder", "LQuantisedLists$Finder;", true)
  | _ => ("QuantisedLists", "file", "LQuantisedLists$ByteFile;", true)
def zty0 : Nat → FieldType := fun k => match k with
  | 0 => .object "QuantisedLists$Turn"
  | 1 => .object "QuantisedLists$Samples"
  | 2 => .object "QuantisedLists$Clustering"
  | 3 => .object "QuantisedLists$Quantiser"
  | 4 => .object "QuantisedLists$EntryTable"
  | 5 => .object "QuantisedLists$Finder"
  | _ => .object "QuantisedLists$ByteFile"
theorem zin0 : ∀ w ∈ u_ws "QuantisedLists" zT0 7, w ∈ gtbl := zin [234, 236, 238, 240, 242, 244, 246] (by decide +kernel)
theorem zok0 : ∀ k, k < 7 → parseFieldDescriptor (zT0 k).2.2.1 = some (zty0 k) := by decide +kernel
theorem znm0 : ∀ a, a < 7 → ∀ b, b < 7 → a ≠ b → (zT0 a).2.1 ≠ (zT0 b).2.1 := by decide +kernel
def zT1 : u_T := fun k => match k with
  | _ => ("QuantisedLists$Turn", "steps", "[I", true)
def zty1 : Nat → FieldType := fun k => match k with
  | _ => .array .int
theorem zin1 : ∀ w ∈ u_ws "QuantisedLists$Turn" zT1 1, w ∈ gtbl := zin [28] (by decide +kernel)
theorem zok1 : ∀ k, k < 1 → parseFieldDescriptor (zT1 k).2.2.1 = some (zty1 k) := by decide +kernel
theorem znm1 : ∀ a, a < 1 → ∀ b, b < 1 → a ≠ b → (zT1 a).2.1 ≠ (zT1 b).2.1 := by decide +kernel
def zT2 : u_T := fun k => match k with
  | 0 => ("QuantisedLists$Samples", "points", "[[I", true)
  | _ => ("QuantisedLists$Samples", "count", "I", false)
def zty2 : Nat → FieldType := fun k => match k with
  | 0 => .array (.array .int)
  | _ => .int
theorem zin2 : ∀ w ∈ u_ws "QuantisedLists$Samples" zT2 2, w ∈ gtbl := zin [43, 45] (by decide +kernel)
theorem zok2 : ∀ k, k < 2 → parseFieldDescriptor (zT2 k).2.2.1 = some (zty2 k) := by decide +kernel
theorem znm2 : ∀ a, a < 2 → ∀ b, b < 2 → a ≠ b → (zT2 a).2.1 ≠ (zT2 b).2.1 := by decide +kernel
def zT3 : u_T := fun k => match k with
  | 0 => ("QuantisedLists$Clustering", "items", "[[I", true)
  | 1 => ("QuantisedLists$Clustering", "centres", "[[I", true)
  | 2 => ("QuantisedLists$Clustering", "sums", "[[I", true)
  | 3 => ("QuantisedLists$Clustering", "members", "[I", true)
  | 4 => ("QuantisedLists$Clustering", "shares", "[I", true)
  | 5 => ("QuantisedLists$Clustering", "size", "I", false)
  | 6 => ("QuantisedLists$Clustering", "from", "I", false)
  | 7 => ("QuantisedLists$Clustering", "width", "I", false)
  | _ => ("QuantisedLists$Clustering", "count", "I", false)
def zty3 : Nat → FieldType := fun k => match k with
  | 0 => .array (.array .int)
  | 1 => .array (.array .int)
  | 2 => .array (.array .int)
  | 3 => .array .int
  | 4 => .array .int
  | 5 => .int
  | 6 => .int
  | 7 => .int
  | _ => .int
theorem zin3 : ∀ w ∈ u_ws "QuantisedLists$Clustering" zT3 9, w ∈ gtbl := zin [66, 68, 70, 72, 74, 76, 78, 80, 82] (by decide +kernel)
theorem zok3 : ∀ k, k < 9 → parseFieldDescriptor (zT3 k).2.2.1 = some (zty3 k) := by decide +kernel
theorem znm3 : ∀ a, a < 9 → ∀ b, b < 9 → a ≠ b → (zT3 a).2.1 ≠ (zT3 b).2.1 := by decide +kernel
def zT4 : u_T := fun k => match k with
  | 0 => ("QuantisedLists$Quantiser", "centres", "[[I", true)
  | 1 => ("QuantisedLists$Quantiser", "words", "[[I", true)
  | 2 => ("QuantisedLists$Quantiser", "left", "[I", true)
  | 3 => ("QuantisedLists$Quantiser", "trained", "Z", false)
  | 4 => ("QuantisedLists$Quantiser", "kind", "I", false)
  | 5 => ("QuantisedLists$Quantiser", "lists", "I", false)
  | _ => ("QuantisedLists$Quantiser", "codes", "I", false)
def zty4 : Nat → FieldType := fun k => match k with
  | 0 => .array (.array .int)
  | 1 => .array (.array .int)
  | 2 => .array .int
  | 3 => .boolean
  | 4 => .int
  | 5 => .int
  | _ => .int
theorem zin4 : ∀ w ∈ u_ws "QuantisedLists$Quantiser" zT4 7, w ∈ gtbl := zin [105, 107, 109, 111, 113, 115, 117] (by decide +kernel)
theorem zok4 : ∀ k, k < 7 → parseFieldDescriptor (zT4 k).2.2.1 = some (zty4 k) := by decide +kernel
theorem znm4 : ∀ a, a < 7 → ∀ b, b < 7 → a ≠ b → (zT4 a).2.1 ≠ (zT4 b).2.1 := by decide +kernel
def zT5 : u_T := fun k => match k with
  | 0 => ("QuantisedLists$EntryTable", "rows", "[LQuantisedLists$Entry;", true)
  | _ => ("QuantisedLists$EntryTable", "count", "I", false)
def zty5 : Nat → FieldType := fun k => match k with
  | 0 => .array (.object "QuantisedLists$Entry")
  | _ => .int
theorem zin5 : ∀ w ∈ u_ws "QuantisedLists$EntryTable" zT5 2, w ∈ gtbl := zin [165, 167] (by decide +kernel)
theorem zok5 : ∀ k, k < 2 → parseFieldDescriptor (zT5 k).2.2.1 = some (zty5 k) := by decide +kernel
theorem znm5 : ∀ a, a < 2 → ∀ b, b < 2 → a ≠ b → (zT5 a).2.1 ≠ (zT5 b).2.1 := by decide +kernel
def zT6 : u_T := fun k => match k with
  | 0 => ("QuantisedLists$Finder", "given", "[I", true)
  | 1 => ("QuantisedLists$Finder", "goal", "[I", true)
  | 2 => ("QuantisedLists$Finder", "places", "[I", true)
  | 3 => ("QuantisedLists$Finder", "distances", "[I", true)
  | 4 => ("QuantisedLists$Finder", "ids", "[I", true)
  | 5 => ("QuantisedLists$Finder", "probes", "I", false)
  | 6 => ("QuantisedLists$Finder", "refine", "I", false)
  | 7 => ("QuantisedLists$Finder", "looked", "I", false)
  | _ => ("QuantisedLists$Finder", "results", "I", false)
def zty6 : Nat → FieldType := fun k => match k with
  | 0 => .array .int
  | 1 => .array .int
  | 2 => .array .int
  | 3 => .array .int
  | 4 => .array .int
  | 5 => .int
  | 6 => .int
  | 7 => .int
  | _ => .int
theorem zin6 : ∀ w ∈ u_ws "QuantisedLists$Finder" zT6 9, w ∈ gtbl := zin [193, 195, 197, 199, 201, 203, 205, 207, 209] (by decide +kernel)
theorem zok6 : ∀ k, k < 9 → parseFieldDescriptor (zT6 k).2.2.1 = some (zty6 k) := by decide +kernel
theorem znm6 : ∀ a, a < 9 → ∀ b, b < 9 → a ≠ b → (zT6 a).2.1 ≠ (zT6 b).2.1 := by decide +kernel
def zT7 : u_T := fun k => match k with
  | 0 => ("QuantisedLists$ByteFile", "bytes", "[I", true)
  | _ => ("QuantisedLists$ByteFile", "length", "I", false)
def zty7 : Nat → FieldType := fun k => match k with
  | 0 => .array .int
  | _ => .int
theorem zin7 : ∀ w ∈ u_ws "QuantisedLists$ByteFile" zT7 2, w ∈ gtbl := zin [222, 224] (by decide +kernel)
theorem zok7 : ∀ k, k < 2 → parseFieldDescriptor (zT7 k).2.2.1 = some (zty7 k) := by decide +kernel
theorem znm7 : ∀ a, a < 2 → ∀ b, b < 2 → a ≠ b → (zT7 a).2.1 ≠ (zT7 b).2.1 := by decide +kernel
def zT8 : u_T := fun k => match k with
  | 0 => ("QuantisedListsModel", "t", "[I", true)
  | 1 => ("QuantisedListsModel", "samples", "[I", true)
  | 2 => ("QuantisedListsModel", "count", "I", false)
  | 3 => ("QuantisedListsModel", "trained", "Z", false)
  | 4 => ("QuantisedListsModel", "kind", "I", false)
  | 5 => ("QuantisedListsModel", "lists", "I", false)
  | 6 => ("QuantisedListsModel", "codes", "I", false)
  | 7 => ("QuantisedListsModel", "centres", "[I", true)
  | 8 => ("QuantisedListsModel", "words", "[I", true)
  | 9 => ("QuantisedListsModel", "present", "[Z", true)
  | 10 => ("QuantisedListsModel", "points", "[I", true)
  | 11 => ("QuantisedListsModel", "kept", "I", false)
  | 12 => ("QuantisedListsModel", "probes", "I", false)
  | 13 => ("QuantisedListsModel", "refine", "I", false)
  | 14 => ("QuantisedListsModel", "hits", "[I", true)
  | 15 => ("QuantisedListsModel", "fars", "[I", true)
  | 16 => ("QuantisedListsModel", "found", "I", false)
  | 17 => ("QuantisedListsModel", "looked", "I", false)
  | 18 => ("QuantisedListsModel", "file", "[I", true)
  | 19 => ("QuantisedListsModel", "length", "I", false)
  | 20 => ("QuantisedListsModel", "given", "[I", true)
  | 21 => ("QuantisedListsModel", "turned", "[I", true)
  | 22 => ("QuantisedListsModel", "left", "[I", true)
  | 23 => ("QuantisedListsModel", "sought", "[I", true)
  | 24 => ("QuantisedListsModel", "item", "[I", true)
  | 25 => ("QuantisedListsModel", "rest", "[I", true)
  | 26 => ("QuantisedListsModel", "middle", "[I", true)
  | 27 => ("QuantisedListsModel", "member", "[I", true)
  | 28 => ("QuantisedListsModel", "share", "[I", true)
  | 29 => ("QuantisedListsModel", "ids", "[I", true)
  | 30 => ("QuantisedListsModel", "key", "[I", true)
  | 31 => ("QuantisedListsModel", "exact", "[I", true)
  | _ => ("QuantisedListsModel", "taken", "[Z", true)
def zty8 : Nat → FieldType := fun k => match k with
  | 0 => .array .int
  | 1 => .array .int
  | 2 => .int
  | 3 => .boolean
  | 4 => .int
  | 5 => .int
  | 6 => .int
  | 7 => .array .int
  | 8 => .array .int
  | 9 => .array .boolean
  | 10 => .array .int
  | 11 => .int
  | 12 => .int
  | 13 => .int
  | 14 => .array .int
  | 15 => .array .int
  | 16 => .int
  | 17 => .int
  | 18 => .array .int
  | 19 => .int
  | 20 => .array .int
  | 21 => .array .int
  | 22 => .array .int
  | 23 => .array .int
  | 24 => .array .int
  | 25 => .array .int
  | 26 => .array .int
  | 27 => .array .int
  | 28 => .array .int
  | 29 => .array .int
  | 30 => .array .int
  | 31 => .array .int
  | _ => .array .boolean
theorem zin8 : ∀ w ∈ u_ws "QuantisedListsModel" zT8 33, w ∈ gtbl := zin [696, 698, 700, 702, 704, 706, 708, 710, 712, 714, 716, 718, 720, 722, 724, 726, 728, 730, 732, 734, 736, 738, 740, 742, 744, 746, 748, 750, 752, 754, 756, 758, 760] (by decide +kernel)
theorem zok8 : ∀ k, k < 33 → parseFieldDescriptor (zT8 k).2.2.1 = some (zty8 k) := by decide +kernel
theorem znm8 : ∀ a, a < 33 → ∀ b, b < 33 → a ≠ b → (zT8 a).2.1 ≠ (zT8 b).2.1 := by decide +kernel
def zT9 : u_T := fun k => match k with
  | 0 => ("QuantisedLists$Entry", "given", "[I", true)
  | 1 => ("QuantisedLists$Entry", "turned", "[I", true)
  | 2 => ("QuantisedLists$Entry", "code", "[I", true)
  | 3 => ("QuantisedLists$Entry", "id", "I", false)
  | _ => ("QuantisedLists$Entry", "list", "I", false)
def zty9 : Nat → FieldType := fun k => match k with
  | 0 => .array .int
  | 1 => .array .int
  | 2 => .array .int
  | 3 => .int
  | _ => .int
theorem zin9 : ∀ w ∈ u_ws "QuantisedLists$Entry" zT9 5, w ∈ gtbl := zin [148, 150, 152, 154, 156] (by decide +kernel)
theorem zok9 : ∀ k, k < 5 → parseFieldDescriptor (zT9 k).2.2.1 = some (zty9 k) := by decide +kernel
theorem znm9 : ∀ a, a < 5 → ∀ b, b < 5 → a ≠ b → (zT9 a).2.1 ≠ (zT9 b).2.1 := by decide +kernel
def zcl : List vw_C := [("QuantisedLists", zT0, 7), ("QuantisedLists$Turn", zT1, 1), ("QuantisedLists$Samples", zT2, 2), ("QuantisedLists$Clustering", zT3, 9), ("QuantisedLists$Quantiser", zT4, 7), ("QuantisedLists$EntryTable", zT5, 2), ("QuantisedLists$Finder", zT6, 9), ("QuantisedLists$ByteFile", zT7, 2), ("QuantisedListsModel", zT8, 33), ("QuantisedLists$Entry", zT9, 5)]
theorem zcf {ci : Nat} {C : String} {T : u_T} {N : Nat} (h : zcl[ci]? = some (C, T, N)) : (∀ w ∈ u_ws C T N, w ∈ gtbl) ∧ (∃ t0 : Nat → FieldType, ∀ k, k < N → parseFieldDescriptor (T k).2.2.1 = some (t0 k)) ∧ (∀ a, a < N → ∀ b, b < N → a ≠ b → (T a).2.1 ≠ (T b).2.1) := by
  match ci, h with
  | 0, h => cases h; exact ⟨zin0, ⟨zty0, zok0⟩, znm0⟩
  | 1, h => cases h; exact ⟨zin1, ⟨zty1, zok1⟩, znm1⟩
  | 2, h => cases h; exact ⟨zin2, ⟨zty2, zok2⟩, znm2⟩
  | 3, h => cases h; exact ⟨zin3, ⟨zty3, zok3⟩, znm3⟩
  | 4, h => cases h; exact ⟨zin4, ⟨zty4, zok4⟩, znm4⟩
  | 5, h => cases h; exact ⟨zin5, ⟨zty5, zok5⟩, znm5⟩
  | 6, h => cases h; exact ⟨zin6, ⟨zty6, zok6⟩, znm6⟩
  | 7, h => cases h; exact ⟨zin7, ⟨zty7, zok7⟩, znm7⟩
  | 8, h => cases h; exact ⟨zin8, ⟨zty8, zok8⟩, znm8⟩
  | 9, h => cases h; exact ⟨zin9, ⟨zty9, zok9⟩, znm9⟩
def FL (own : String) (idx ci k : Nat) : Prop := ∃ (C : String) (T : u_T) (N : Nat), zcl[ci]? = some (C, T, N) ∧ k < N ∧ (T k).1 = C ∧ (Cond.fieldLink own idx C (T k).2.1 (T k).2.2.1 ∈ gtbl ∨ ∃ host, Cond.fieldLinkNest own idx C (T k).2.1 (T k).2.2.1 host ∈ ntbl)
def FW (ci k : Nat) (ty : FieldType) : Prop := ∀ (C : String) (T : u_T) (N : Nat), zcl[ci]? = some (C, T, N) → (T k).2.2.2 = false ∧ parseFieldDescriptor (T k).2.2.1 = some ty
def MF (M : Mt) : Prop := Cond.code M.1 M.2.1 M.2.2.1 M.2.2.2.1 ∈ gtbl ∧ Cond.initialized M.1.cls ∈ gtbl ∧ M.1.cls ≠ "java/lang/invoke/MethodHandle" ∧ M.1.cls ≠ "java/lang/invoke/VarHandle" ∧ plainFor M.1 = true
def MV (M : Mt) : Prop := Cond.instanceMethod M.1 ∈ gtbl ∧ Cond.selects M.1.cls M.1 M.1 ∈ gtbl
def MS (M : Mt) : Prop := Cond.static M.1 ∈ gtbl
abbrev NP (M : Mt) (n : Nat) : Prop := (parseMethodDescriptor M.1.desc).map (fun d => d.parameters.length) = some n
def LK (own : String) (idx : Nat) (y : MethodName) : Prop := Cond.methodLink own idx y ∈ gtbl ∨ ∃ host, Cond.methodLinkNest own idx y host ∈ ntbl
def M_q_turn : Mt := (⟨"QuantisedLists", "turn", "(IIII)Z"⟩, prog_1_method_2_code, 5, some .boolean, 3, 65)
def M_t_allows : Mt := (⟨"QuantisedLists$Turn", "allows", "(IIII)Z"⟩, prog_9_method_2_code, 4, some .boolean, 2, 42)
def M_t_isStep : Mt := (⟨"QuantisedLists$Turn", "isStep", "(I)Z"⟩, prog_9_method_3_code, 1, some .boolean, 1, 22)
def M_q_isWithin : Mt := (⟨"QuantisedLists", "isWithin", "(III)Z"⟩, prog_1_method_35_code, 3, some .boolean, 0, 0)
def M_t_axisBit : Mt := (⟨"QuantisedLists$Turn", "axisBit", "(I)I"⟩, prog_9_method_4_code, 1, some .int, 1, 20)
def M_j_abs : Mt := (⟨"java/lang/Math", "abs", "(I)I"⟩, prog_12_method_59_code, 1, some .int, 0, 0)
def M_t_become : Mt := (⟨"QuantisedLists$Turn", "become", "(IIII)V"⟩, prog_9_method_5_code, 5, none, 1, 24)
def M_q_setPoint : Mt := (⟨"QuantisedLists", "setPoint", "([IIIII)V"⟩, prog_1_method_37_code, 5, none, 0, 0)
def M_q_sample : Mt := (⟨"QuantisedLists", "sample", "(IIII)Z"⟩, prog_1_method_3_code, 5, some .boolean, 2, 45)
def M_q_isBad : Mt := (⟨"QuantisedLists", "isBad", "(IIII)Z"⟩, prog_1_method_36_code, 4, some .boolean, 1, 22)
def M_q_train : Mt := (⟨"QuantisedLists", "train", "(IIII)I"⟩, prog_1_method_4_code, 5, some .int, 6, 150)
def M_z_become : Mt := (⟨"QuantisedLists$Quantiser", "become", "(III)V"⟩, prog_7_method_2_code, 4, none, 0, 0)
def M_q_learnCentres : Mt := (⟨"QuantisedLists", "learnCentres", "(I)V"⟩, prog_1_method_22_code, 3, none, 5, 127)
def M_t_apply : Mt := (⟨"QuantisedLists$Turn", "apply", "([I[I)V"⟩, prog_9_method_6_code, 5, none, 1, 20)
def M_c_cluster : Mt := (⟨"QuantisedLists$Clustering", "cluster", "(IIII)V"⟩, prog_3_method_2_code, 6, none, 4, 102)
def M_c_chooseCentres : Mt := (⟨"QuantisedLists$Clustering", "chooseCentres", "()V"⟩, prog_3_method_6_code, 2, none, 3, 81)
def M_c_beginCentre : Mt := (⟨"QuantisedLists$Clustering", "beginCentre", "(II)V"⟩, prog_3_method_7_code, 4, none, 0, 0)
def M_c_farthestItem : Mt := (⟨"QuantisedLists$Clustering", "farthestItem", "(I)I"⟩, prog_3_method_8_code, 7, some .int, 2, 55)
def M_q_nearestRow : Mt := (⟨"QuantisedLists", "nearestRow", "([[III[III)I"⟩, prog_1_method_43_code, 10, some .int, 1, 26)
def M_q_distance : Mt := (⟨"QuantisedLists", "distance", "([I[III)I"⟩, prog_1_method_42_code, 7, some .int, 0, 0)
def M_c_countMembers : Mt := (⟨"QuantisedLists$Clustering", "countMembers", "()V"⟩, prog_3_method_9_code, 4, none, 2, 55)
def M_c_moveToMeans : Mt := (⟨"QuantisedLists$Clustering", "moveToMeans", "()V"⟩, prog_3_method_10_code, 3, none, 1, 22)
def M_j_floorDiv : Mt := (⟨"java/lang/Math", "floorDiv", "(II)I"⟩, prog_12_method_47_code, 3, some .int, 0, 0)
def M_c_fillEmptyCentres : Mt := (⟨"QuantisedLists$Clustering", "fillEmptyCentres", "()V"⟩, prog_3_method_11_code, 2, none, 1, 23)
def M_c_greatestShare : Mt := (⟨"QuantisedLists$Clustering", "greatestShare", "()I"⟩, prog_3_method_12_code, 3, some .int, 0, 0)
def M_c_splitInto : Mt := (⟨"QuantisedLists$Clustering", "splitInto", "(II)V"⟩, prog_3_method_13_code, 4, none, 0, 0)
def M_c_giveCentres : Mt := (⟨"QuantisedLists$Clustering", "giveCentres", "([[II)V"⟩, prog_3_method_3_code, 5, none, 0, 0)
def M_q_keepWhatIsLeft : Mt := (⟨"QuantisedLists", "keepWhatIsLeft", "()V"⟩, prog_1_method_23_code, 3, none, 3, 76)
def M_z_nearestList : Mt := (⟨"QuantisedLists$Quantiser", "nearestList", "([I)I"⟩, prog_7_method_5_code, 2, some .int, 2, 55)
def M_q_subtract : Mt := (⟨"QuantisedLists", "subtract", "([I[I[I)V"⟩, prog_1_method_41_code, 4, none, 0, 0)
def M_q_learnWords : Mt := (⟨"QuantisedLists", "learnWords", "(I)V"⟩, prog_1_method_24_code, 4, none, 5, 127)
def M_q_partWidthOf : Mt := (⟨"QuantisedLists", "partWidthOf", "(I)I"⟩, prog_1_method_39_code, 1, some .int, 0, 0)
def M_q_partsOf : Mt := (⟨"QuantisedLists", "partsOf", "(I)I"⟩, prog_1_method_38_code, 1, some .int, 0, 0)
def M_q_wordRow : Mt := (⟨"QuantisedLists", "wordRow", "(II)I"⟩, prog_1_method_40_code, 2, some .int, 0, 0)
def M_c_least : Mt := (⟨"QuantisedLists$Clustering", "least", "(I)I"⟩, prog_3_method_4_code, 4, some .int, 1, 21)
def M_j_min : Mt := (⟨"java/lang/Math", "min", "(II)I"⟩, prog_12_method_69_code, 2, some .int, 0, 0)
def M_c_greatest : Mt := (⟨"QuantisedLists$Clustering", "greatest", "(I)I"⟩, prog_3_method_5_code, 4, some .int, 1, 21)
def M_j_max : Mt := (⟨"java/lang/Math", "max", "(II)I"⟩, prog_12_method_65_code, 2, some .int, 0, 0)
def M_z_spreadWords : Mt := (⟨"QuantisedLists$Quantiser", "spreadWords", "(III)V"⟩, prog_7_method_8_code, 5, none, 1, 21)
def M_q_trainingError : Mt := (⟨"QuantisedLists", "trainingError", "()I"⟩, prog_1_method_25_code, 5, some .int, 3, 78)
def M_z_nearestWord : Mt := (⟨"QuantisedLists$Quantiser", "nearestWord", "(I[I)I"⟩, prog_7_method_6_code, 4, some .int, 2, 55)
def M_z_wordDistance : Mt := (⟨"QuantisedLists$Quantiser", "wordDistance", "(II[I)I"⟩, prog_7_method_7_code, 5, some .int, 1, 26)
def M_q_centre : Mt := (⟨"QuantisedLists", "centre", "(II)I"⟩, prog_1_method_5_code, 3, some .int, 2, 43)
def M_z_hasList : Mt := (⟨"QuantisedLists$Quantiser", "hasList", "(I)Z"⟩, prog_7_method_3_code, 2, some .boolean, 1, 22)
def M_q_word : Mt := (⟨"QuantisedLists", "word", "(III)I"⟩, prog_1_method_6_code, 4, some .int, 2, 44)
def M_z_hasWord : Mt := (⟨"QuantisedLists$Quantiser", "hasWord", "(II)Z"⟩, prog_7_method_4_code, 3, some .boolean, 1, 22)
def M_q_add : Mt := (⟨"QuantisedLists", "add", "(IIIII)I"⟩, prog_1_method_7_code, 6, some .int, 5, 126)
def M_b_placeOf : Mt := (⟨"QuantisedLists$EntryTable", "placeOf", "(I)I"⟩, prog_5_method_2_code, 3, some .int, 0, 0)
def M_q_putEntry : Mt := (⟨"QuantisedLists", "putEntry", "(IIIII)I"⟩, prog_1_method_26_code, 7, some .int, 4, 100)
def M_b_makeRoom : Mt := (⟨"QuantisedLists$EntryTable", "makeRoom", "(I)I"⟩, prog_5_method_4_code, 4, some .int, 0, 0)
def M_z_encode : Mt := (⟨"QuantisedLists$Quantiser", "encode", "(LQuantisedLists$Entry;)V"⟩, prog_7_method_9_code, 3, none, 3, 78)
def M_q_remove : Mt := (⟨"QuantisedLists", "remove", "(I)Z"⟩, prog_1_method_8_code, 3, some .boolean, 1, 23)
def M_b_drop : Mt := (⟨"QuantisedLists$EntryTable", "drop", "(I)V"⟩, prog_5_method_5_code, 4, none, 0, 0)
def M_q_listOf : Mt := (⟨"QuantisedLists", "listOf", "(I)I"⟩, prog_1_method_9_code, 3, some .int, 1, 22)
def M_q_codeOf : Mt := (⟨"QuantisedLists", "codeOf", "(I)I"⟩, prog_1_method_10_code, 3, some .int, 2, 44)
def M_z_codeAsNumber : Mt := (⟨"QuantisedLists$Quantiser", "codeAsNumber", "(LQuantisedLists$Entry;)I"⟩, prog_7_method_10_code, 5, some .int, 1, 20)
def M_q_entries : Mt := (⟨"QuantisedLists", "entries", "(I)I"⟩, prog_1_method_11_code, 2, some .int, 2, 43)
def M_b_countInList : Mt := (⟨"QuantisedLists$EntryTable", "countInList", "(I)I"⟩, prog_5_method_3_code, 4, some .int, 0, 0)
def M_q_effort : Mt := (⟨"QuantisedLists", "effort", "(II)Z"⟩, prog_1_method_12_code, 3, some .boolean, 1, 22)
def M_q_search : Mt := (⟨"QuantisedLists", "search", "(IIIII)I"⟩, prog_1_method_13_code, 6, some .int, 5, 122)
def M_f_find : Mt := (⟨"QuantisedLists$Finder", "find", "(LQuantisedLists$Quantiser;LQuantisedLists$EntryTable;I)V"⟩, prog_6_method_3_code, 5, none, 4, 98)
def M_f_lookThrough : Mt := (⟨"QuantisedLists$Finder", "lookThrough", "(LQuantisedLists$Quantiser;LQuantisedLists$EntryTable;)V"⟩, prog_6_method_4_code, 5, none, 3, 74)
def M_z_listsBefore : Mt := (⟨"QuantisedLists$Quantiser", "listsBefore", "(I[I)I"⟩, prog_7_method_12_code, 7, some .int, 1, 26)
def M_z_codeDistance : Mt := (⟨"QuantisedLists$Quantiser", "codeDistance", "([ILQuantisedLists$Entry;)I"⟩, prog_7_method_11_code, 5, some .int, 2, 50)
def M_f_sort : Mt := (⟨"QuantisedLists$Finder", "sort", "(I)V"⟩, prog_6_method_6_code, 6, none, 1, 23)
def M_f_isBefore : Mt := (⟨"QuantisedLists$Finder", "isBefore", "(III)Z"⟩, prog_6_method_7_code, 4, some .boolean, 0, 0)
def M_f_measure : Mt := (⟨"QuantisedLists$Finder", "measure", "(LQuantisedLists$EntryTable;I)V"⟩, prog_6_method_5_code, 4, none, 1, 26)
def M_f_keepIds : Mt := (⟨"QuantisedLists$Finder", "keepIds", "(LQuantisedLists$EntryTable;)V"⟩, prog_6_method_8_code, 3, none, 0, 0)
def M_q_hit : Mt := (⟨"QuantisedLists", "hit", "(I)I"⟩, prog_1_method_14_code, 2, some .int, 2, 43)
def M_f_hasResult : Mt := (⟨"QuantisedLists$Finder", "hasResult", "(I)Z"⟩, prog_6_method_2_code, 2, some .boolean, 1, 22)
def M_q_far : Mt := (⟨"QuantisedLists", "far", "(I)I"⟩, prog_1_method_15_code, 2, some .int, 2, 43)
def M_q_scanned : Mt := (⟨"QuantisedLists", "scanned", "()I"⟩, prog_1_method_16_code, 1, some .int, 0, 0)
def M_q_save : Mt := (⟨"QuantisedLists", "save", "()I"⟩, prog_1_method_17_code, 1, some .int, 3, 65)
def M_q_writeHead : Mt := (⟨"QuantisedLists", "writeHead", "()V"⟩, prog_1_method_27_code, 2, none, 1, 21)
def M_y_put : Mt := (⟨"QuantisedLists$ByteFile", "put", "(I)V"⟩, prog_2_method_2_code, 2, none, 0, 0)
def M_q_writeCentres : Mt := (⟨"QuantisedLists", "writeCentres", "()V"⟩, prog_1_method_28_code, 3, none, 2, 42)
def M_y_putPair : Mt := (⟨"QuantisedLists$ByteFile", "putPair", "(I)V"⟩, prog_2_method_3_code, 2, none, 1, 21)
def M_q_writeWords : Mt := (⟨"QuantisedLists", "writeWords", "()V"⟩, prog_1_method_29_code, 4, none, 2, 42)
def M_q_writeEntries : Mt := (⟨"QuantisedLists", "writeEntries", "()V"⟩, prog_1_method_30_code, 4, none, 2, 42)
def M_y_checkOf : Mt := (⟨"QuantisedLists$ByteFile", "checkOf", "(I)I"⟩, prog_2_method_4_code, 4, some .int, 0, 0)
def M_q_alter : Mt := (⟨"QuantisedLists", "alter", "(II)Z"⟩, prog_1_method_18_code, 3, some .boolean, 1, 22)
def M_q_cut : Mt := (⟨"QuantisedLists", "cut", "(I)Z"⟩, prog_1_method_19_code, 2, some .boolean, 1, 22)
def M_q_byteAt : Mt := (⟨"QuantisedLists", "byteAt", "(I)I"⟩, prog_1_method_20_code, 2, some .int, 1, 22)
def M_q_load : Mt := (⟨"QuantisedLists", "load", "()I"⟩, prog_1_method_21_code, 2, some .int, 6, 147)
def M_y_fault : Mt := (⟨"QuantisedLists$ByteFile", "fault", "()I"⟩, prog_2_method_9_code, 1, some .int, 5, 109)
def M_y_hasSizes : Mt := (⟨"QuantisedLists$ByteFile", "hasSizes", "()Z"⟩, prog_2_method_10_code, 1, some .boolean, 1, 22)
def M_y_step : Mt := (⟨"QuantisedLists$ByteFile", "step", "(I)I"⟩, prog_2_method_5_code, 2, some .int, 0, 0)
def M_y_entryStart : Mt := (⟨"QuantisedLists$ByteFile", "entryStart", "(I)I"⟩, prog_2_method_12_code, 2, some .int, 1, 21)
def M_y_wideCount : Mt := (⟨"QuantisedLists$ByteFile", "wideCount", "()I"⟩, prog_2_method_11_code, 2, some .int, 0, 0)
def M_y_hasWides : Mt := (⟨"QuantisedLists$ByteFile", "hasWides", "()Z"⟩, prog_2_method_14_code, 2, some .boolean, 2, 42)
def M_y_wide : Mt := (⟨"QuantisedLists$ByteFile", "wide", "(I)I"⟩, prog_2_method_6_code, 2, some .int, 1, 21)
def M_y_pairAt : Mt := (⟨"QuantisedLists$ByteFile", "pairAt", "(I)I"⟩, prog_2_method_13_code, 2, some .int, 0, 0)
def M_y_hasEntries : Mt := (⟨"QuantisedLists$ByteFile", "hasEntries", "()Z"⟩, prog_2_method_15_code, 4, some .boolean, 4, 86)
def M_y_entryId : Mt := (⟨"QuantisedLists$ByteFile", "entryId", "(I)I"⟩, prog_2_method_7_code, 2, some .int, 2, 42)
def M_y_hasPoint : Mt := (⟨"QuantisedLists$ByteFile", "hasPoint", "(I)Z"⟩, prog_2_method_16_code, 3, some .boolean, 3, 64)
def M_y_entryCoordinate : Mt := (⟨"QuantisedLists$ByteFile", "entryCoordinate", "(II)I"⟩, prog_2_method_8_code, 3, some .int, 2, 42)
def M_q_readHead : Mt := (⟨"QuantisedLists", "readHead", "()V"⟩, prog_1_method_31_code, 1, none, 2, 48)
def M_q_readCentres : Mt := (⟨"QuantisedLists", "readCentres", "()V"⟩, prog_1_method_32_code, 3, none, 2, 42)
def M_q_readWords : Mt := (⟨"QuantisedLists", "readWords", "()V"⟩, prog_1_method_33_code, 5, none, 2, 42)
def M_q_readEntries : Mt := (⟨"QuantisedLists", "readEntries", "()V"⟩, prog_1_method_34_code, 2, none, 5, 126)
def M_m_turn : Mt := (⟨"QuantisedListsModel", "turn", "(IIII)Z"⟩, prog_11_method_8_code, 5, some .boolean, 2, 43)
def M_m_isTurn : Mt := (⟨"QuantisedListsModel", "isTurn", "(IIII)Z"⟩, prog_11_method_3_code, 4, some .boolean, 1, 20)
def M_m_bit : Mt := (⟨"QuantisedListsModel", "bit", "(I)I"⟩, prog_11_method_2_code, 1, some .int, 0, 0)
def M_m_sample : Mt := (⟨"QuantisedListsModel", "sample", "(IIII)Z"⟩, prog_11_method_9_code, 6, some .boolean, 2, 46)
def M_m_give : Mt := (⟨"QuantisedListsModel", "give", "(IIII)Z"⟩, prog_11_method_5_code, 5, some .boolean, 1, 22)
def M_m_within : Mt := (⟨"QuantisedListsModel", "within", "(III)Z"⟩, prog_11_method_4_code, 3, some .boolean, 0, 0)
def M_m_train : Mt := (⟨"QuantisedListsModel", "train", "(IIII)I"⟩, prog_11_method_19_code, 8, some .int, 4, 103)
def M_m_turnIt : Mt := (⟨"QuantisedListsModel", "turnIt", "()V"⟩, prog_11_method_6_code, 2, none, 0, 0)
def M_m_cluster : Mt := (⟨"QuantisedListsModel", "cluster", "(III)V"⟩, prog_11_method_13_code, 10, none, 2, 51)
def M_m_nearest : Mt := (⟨"QuantisedListsModel", "nearest", "(III)I"⟩, prog_11_method_12_code, 6, some .int, 1, 26)
def M_m_gap : Mt := (⟨"QuantisedListsModel", "gap", "(III)I"⟩, prog_11_method_11_code, 7, some .int, 0, 0)
def M_m_mean : Mt := (⟨"QuantisedListsModel", "mean", "(II)V"⟩, prog_11_method_14_code, 7, none, 1, 22)
def M_m_floor : Mt := (⟨"QuantisedListsModel", "floor", "(II)I"⟩, prog_11_method_10_code, 3, some .int, 0, 0)
def M_m_fill : Mt := (⟨"QuantisedListsModel", "fill", "(II)V"⟩, prog_11_method_16_code, 6, none, 1, 22)
def M_m_hasMember : Mt := (⟨"QuantisedListsModel", "hasMember", "(I)Z"⟩, prog_11_method_15_code, 3, some .boolean, 0, 0)
def M_m_parts : Mt := (⟨"QuantisedListsModel", "parts", "()I"⟩, prog_11_method_17_code, 1, some .int, 0, 0)
def M_m_learn : Mt := (⟨"QuantisedListsModel", "learn", "(II)V"⟩, prog_11_method_20_code, 4, none, 3, 80)
def M_m_spread : Mt := (⟨"QuantisedListsModel", "spread", "(I)V"⟩, prog_11_method_21_code, 6, none, 0, 0)
def M_m_loss : Mt := (⟨"QuantisedListsModel", "loss", "()I"⟩, prog_11_method_22_code, 5, some .int, 3, 69)
def M_m_nearestWord : Mt := (⟨"QuantisedListsModel", "nearestWord", "(I)I"⟩, prog_11_method_24_code, 5, some .int, 2, 45)
def M_m_wordGap : Mt := (⟨"QuantisedListsModel", "wordGap", "(II)I"⟩, prog_11_method_23_code, 6, some .int, 1, 20)
def M_m_size : Mt := (⟨"QuantisedListsModel", "size", "()I"⟩, prog_11_method_18_code, 1, some .int, 0, 0)
def M_m_centre : Mt := (⟨"QuantisedListsModel", "centre", "(II)I"⟩, prog_11_method_25_code, 3, some .int, 1, 22)
def M_m_word : Mt := (⟨"QuantisedListsModel", "word", "(III)I"⟩, prog_11_method_26_code, 5, some .int, 1, 22)
def M_m_add : Mt := (⟨"QuantisedListsModel", "add", "(IIIII)I"⟩, prog_11_method_29_code, 9, some .int, 2, 47)
def M_m_listNow : Mt := (⟨"QuantisedListsModel", "listNow", "()I"⟩, prog_11_method_28_code, 4, some .int, 1, 24)
def M_m_away : Mt := (⟨"QuantisedListsModel", "away", "(I)I"⟩, prog_11_method_27_code, 5, some .int, 0, 0)
def M_m_remove : Mt := (⟨"QuantisedListsModel", "remove", "(I)Z"⟩, prog_11_method_31_code, 2, some .boolean, 2, 43)
def M_m_there : Mt := (⟨"QuantisedListsModel", "there", "(I)Z"⟩, prog_11_method_30_code, 2, some .boolean, 1, 22)
def M_m_listOf : Mt := (⟨"QuantisedListsModel", "listOf", "(I)I"⟩, prog_11_method_32_code, 2, some .int, 2, 47)
def M_m_turnEntry : Mt := (⟨"QuantisedListsModel", "turnEntry", "(I)V"⟩, prog_11_method_7_code, 3, none, 1, 21)
def M_m_codeOf : Mt := (⟨"QuantisedListsModel", "codeOf", "(I)I"⟩, prog_11_method_34_code, 6, some .int, 3, 69)
def M_m_leave : Mt := (⟨"QuantisedListsModel", "leave", "(I)V"⟩, prog_11_method_33_code, 3, none, 0, 0)
def M_m_entries : Mt := (⟨"QuantisedListsModel", "entries", "(I)I"⟩, prog_11_method_35_code, 4, some .int, 2, 47)
def M_m_effort : Mt := (⟨"QuantisedListsModel", "effort", "(II)Z"⟩, prog_11_method_36_code, 3, some .boolean, 1, 22)
def M_m_search : Mt := (⟨"QuantisedListsModel", "search", "(IIIII)I"⟩, prog_11_method_38_code, 10, some .int, 4, 96)
def M_m_measure : Mt := (⟨"QuantisedListsModel", "measure", "(I)V"⟩, prog_11_method_39_code, 8, none, 3, 69)
def M_m_probed : Mt := (⟨"QuantisedListsModel", "probed", "(I)Z"⟩, prog_11_method_37_code, 6, some .boolean, 1, 24)
def M_m_rank : Mt := (⟨"QuantisedListsModel", "rank", "(I)I"⟩, prog_11_method_40_code, 4, some .int, 0, 0)
def M_m_exactRank : Mt := (⟨"QuantisedListsModel", "exactRank", "(I)I"⟩, prog_11_method_41_code, 4, some .int, 0, 0)
def M_m_hit : Mt := (⟨"QuantisedListsModel", "hit", "(I)I"⟩, prog_11_method_42_code, 2, some .int, 1, 22)
def M_m_far : Mt := (⟨"QuantisedListsModel", "far", "(I)I"⟩, prog_11_method_43_code, 2, some .int, 1, 22)
def M_m_scanned : Mt := (⟨"QuantisedListsModel", "scanned", "()I"⟩, prog_11_method_44_code, 1, some .int, 0, 0)
def M_m_save : Mt := (⟨"QuantisedListsModel", "save", "()I"⟩, prog_11_method_48_code, 4, some .int, 2, 42)
def M_m_put : Mt := (⟨"QuantisedListsModel", "put", "(I)V"⟩, prog_11_method_45_code, 2, none, 0, 0)
def M_m_putTwo : Mt := (⟨"QuantisedListsModel", "putTwo", "(I)V"⟩, prog_11_method_46_code, 2, none, 1, 21)
def M_m_sum : Mt := (⟨"QuantisedListsModel", "sum", "(I)I"⟩, prog_11_method_47_code, 4, some .int, 0, 0)
def M_m_alter : Mt := (⟨"QuantisedListsModel", "alter", "(II)Z"⟩, prog_11_method_49_code, 3, some .boolean, 1, 22)
def M_m_cut : Mt := (⟨"QuantisedListsModel", "cut", "(I)Z"⟩, prog_11_method_50_code, 2, some .boolean, 1, 22)
def M_m_byteAt : Mt := (⟨"QuantisedListsModel", "byteAt", "(I)I"⟩, prog_11_method_51_code, 2, some .int, 1, 22)
def M_m_load : Mt := (⟨"QuantisedListsModel", "load", "()I"⟩, prog_11_method_55_code, 7, some .int, 3, 69)
def M_m_fault : Mt := (⟨"QuantisedListsModel", "fault", "()I"⟩, prog_11_method_54_code, 7, some .int, 2, 43)
def M_m_head : Mt := (⟨"QuantisedListsModel", "head", "()I"⟩, prog_11_method_53_code, 2, some .int, 0, 0)
def M_m_two : Mt := (⟨"QuantisedListsModel", "two", "(I)I"⟩, prog_11_method_52_code, 2, some .int, 0, 0)
