/-! names: classes, their fields in the order of their slots, the tables' words -/
def ct_0 : u_T := fun k => match k with
  | 0 => ("SequentMachine$Depth", "restAfter", "[I", true)
  | 1 => ("SequentMachine$Depth", "around", "I", false)
  | _ => ("SequentMachine$Depth", "missing", "I", false)
def cy_0 : Nat → FieldType := fun k => match k with
  | 0 => .array .int
  | 1 => .int
  | _ => .int
theorem cq_0 : ∀ a, a < 3 → ∀ b, b < 3 → a ≠ b → (ct_0 a).2.1 ≠ (ct_0 b).2.1 := by decide +kernel
theorem cp_0 : ∀ k, k < 3 → parseFieldDescriptor (ct_0 k).2.2.1 = some (cy_0 k) := by decide +kernel
def ct_1 : u_T := fun k => match k with
  | 0 => ("SequentMachine$Equation", "type", "LSequentMachine$Row;", true)
  | 1 => ("SequentMachine$Equation", "left", "LSequentMachine$Row;", true)
  | _ => ("SequentMachine$Equation", "right", "LSequentMachine$Row;", true)
def cy_1 : Nat → FieldType := fun k => match k with
  | 0 => .object "SequentMachine$Row"
  | 1 => .object "SequentMachine$Row"
  | _ => .object "SequentMachine$Row"
theorem cq_1 : ∀ a, a < 3 → ∀ b, b < 3 → a ≠ b → (ct_1 a).2.1 ≠ (ct_1 b).2.1 := by decide +kernel
theorem cp_1 : ∀ k, k < 3 → parseFieldDescriptor (ct_1 k).2.2.1 = some (cy_1 k) := by decide +kernel
def ct_2 : u_T := fun k => match k with
  | 0 => ("SequentMachine$Hypotheses", "rows", "[LSequentMachine$Row;", true)
  | _ => ("SequentMachine$Hypotheses", "size", "I", false)
def cy_2 : Nat → FieldType := fun k => match k with
  | 0 => .array (.object "SequentMachine$Row")
  | _ => .int
theorem cq_2 : ∀ a, a < 2 → ∀ b, b < 2 → a ≠ b → (ct_2 a).2.1 ≠ (ct_2 b).2.1 := by decide +kernel
theorem cp_2 : ∀ k, k < 2 → parseFieldDescriptor (ct_2 k).2.2.1 = some (cy_2 k) := by decide +kernel
def ct_3 : u_T := fun k => match k with
  | 0 => ("SequentMachine$Item", "sort", "I", true)
  | 1 => ("SequentMachine$Item", "main", "LSequentMachine$Row;", true)
  | _ => ("SequentMachine$Item", "hypotheses", "LSequentMachine$Hypotheses;", true)
def cy_3 : Nat → FieldType := fun k => match k with
  | 0 => .int
  | 1 => .object "SequentMachine$Row"
  | _ => .object "SequentMachine$Hypotheses"
theorem cq_3 : ∀ a, a < 3 → ∀ b, b < 3 → a ≠ b → (ct_3 a).2.1 ≠ (ct_3 b).2.1 := by decide +kernel
theorem cp_3 : ∀ k, k < 3 → parseFieldDescriptor (ct_3 k).2.2.1 = some (cy_3 k) := by decide +kernel
def ct_4 : u_T := fun k => match k with
  | 0 => ("SequentMachine$Row", "symbols", "[I", true)
  | 1 => ("SequentMachine$Row", "from", "I", true)
  | _ => ("SequentMachine$Row", "size", "I", true)
def cy_4 : Nat → FieldType := fun k => match k with
  | 0 => .array .int
  | 1 => .int
  | _ => .int
theorem cq_4 : ∀ a, a < 3 → ∀ b, b < 3 → a ≠ b → (ct_4 a).2.1 ≠ (ct_4 b).2.1 := by decide +kernel
theorem cp_4 : ∀ k, k < 3 → parseFieldDescriptor (ct_4 k).2.2.1 = some (cy_4 k) := by decide +kernel
def ct_5 : u_T := fun k => match k with
  | 0 => ("SequentMachine$Scribe", "page", "[I", true)
  | 1 => ("SequentMachine$Scribe", "used", "I", false)
  | 2 => ("SequentMachine$Scribe", "depth", "LSequentMachine$Depth;", true)
  | _ => ("SequentMachine$Scribe", "binders", "[LSequentMachine$Row;", true)
def cy_5 : Nat → FieldType := fun k => match k with
  | 0 => .array .int
  | 1 => .int
  | 2 => .object "SequentMachine$Depth"
  | _ => .array (.object "SequentMachine$Row")
theorem cq_5 : ∀ a, a < 4 → ∀ b, b < 4 → a ≠ b → (ct_5 a).2.1 ≠ (ct_5 b).2.1 := by decide +kernel
theorem cp_5 : ∀ k, k < 4 → parseFieldDescriptor (ct_5 k).2.2.1 = some (cy_5 k) := by decide +kernel
def ct_6 : u_T := fun k => match k with
  | 0 => ("SequentMachine$Shelf", "items", "[LSequentMachine$Item;", true)
  | _ => ("SequentMachine$Shelf", "size", "I", false)
def cy_6 : Nat → FieldType := fun k => match k with
  | 0 => .array (.object "SequentMachine$Item")
  | _ => .int
theorem cq_6 : ∀ a, a < 2 → ∀ b, b < 2 → a ≠ b → (ct_6 a).2.1 ≠ (ct_6 b).2.1 := by decide +kernel
theorem cp_6 : ∀ k, k < 2 → parseFieldDescriptor (ct_6 k).2.2.1 = some (cy_6 k) := by decide +kernel
def ct_7 : u_T := fun k => match k with
  | 0 => ("SequentMachine", "scribe", "LSequentMachine$Scribe;", true)
  | 1 => ("SequentMachine", "stack", "LSequentMachine$Shelf;", true)
  | 2 => ("SequentMachine", "assumed", "LSequentMachine$Shelf;", true)
  | 3 => ("SequentMachine", "exported", "LSequentMachine$Shelf;", true)
  | 4 => ("SequentMachine", "dictionary", "[LSequentMachine$Item;", true)
  | 5 => ("SequentMachine", "definedTypes", "[LSequentMachine$Row;", true)
  | 6 => ("SequentMachine", "noHypotheses", "LSequentMachine$Hypotheses;", true)
  | 7 => ("SequentMachine", "constants", "I", false)
  | _ => ("SequentMachine", "commands", "I", false)
def cy_7 : Nat → FieldType := fun k => match k with
  | 0 => .object "SequentMachine$Scribe"
  | 1 => .object "SequentMachine$Shelf"
  | 2 => .object "SequentMachine$Shelf"
  | 3 => .object "SequentMachine$Shelf"
  | 4 => .array (.object "SequentMachine$Item")
  | 5 => .array (.object "SequentMachine$Row")
  | 6 => .object "SequentMachine$Hypotheses"
  | 7 => .int
  | _ => .int
theorem cq_7 : ∀ a, a < 9 → ∀ b, b < 9 → a ≠ b → (ct_7 a).2.1 ≠ (ct_7 b).2.1 := by decide +kernel
theorem cp_7 : ∀ k, k < 9 → parseFieldDescriptor (ct_7 k).2.2.1 = some (cy_7 k) := by decide +kernel
def ct_8 : u_T := fun k => match k with
  | 0 => ("SequentMachineModel", "mem", "[I", true)
  | 1 => ("SequentMachineModel", "len", "[I", true)
  | 2 => ("SequentMachineModel", "kinds", "[I", true)
  | 3 => ("SequentMachineModel", "hyps", "[I", true)
  | 4 => ("SequentMachineModel", "size", "I", false)
  | 5 => ("SequentMachineModel", "assumed", "I", false)
  | 6 => ("SequentMachineModel", "exported", "I", false)
  | 7 => ("SequentMachineModel", "constants", "I", false)
  | 8 => ("SequentMachineModel", "commands", "I", false)
  | 9 => ("SequentMachineModel", "constLen", "[I", true)
  | 10 => ("SequentMachineModel", "binder", "[I", true)
  | 11 => ("SequentMachineModel", "out", "I", false)
  | 12 => ("SequentMachineModel", "big", "Z", false)
  | 13 => ("SequentMachineModel", "typeFrom", "I", false)
  | _ => ("SequentMachineModel", "typeEnd", "I", false)
def cy_8 : Nat → FieldType := fun k => match k with
  | 0 => .array .int
  | 1 => .array .int
  | 2 => .array .int
  | 3 => .array .int
  | 4 => .int
  | 5 => .int
  | 6 => .int
  | 7 => .int
  | 8 => .int
  | 9 => .array .int
  | 10 => .array .int
  | 11 => .int
  | 12 => .boolean
  | 13 => .int
  | _ => .int
theorem cq_8 : ∀ a, a < 15 → ∀ b, b < 15 → a ≠ b → (ct_8 a).2.1 ≠ (ct_8 b).2.1 := by decide +kernel
theorem cp_8 : ∀ k, k < 15 → parseFieldDescriptor (ct_8 k).2.2.1 = some (cy_8 k) := by decide +kernel
abbrev cl_s : List vw_C := [("SequentMachine$Depth", ct_0, 3), ("SequentMachine$Equation", ct_1, 3), ("SequentMachine$Hypotheses", ct_2, 2), ("SequentMachine$Item", ct_3, 3), ("SequentMachine$Row", ct_4, 3), ("SequentMachine$Scribe", ct_5, 4), ("SequentMachine$Shelf", ct_6, 2), ("SequentMachine", ct_7, 9), ("SequentMachineModel", ct_8, 15)]
def x_ws : List Cond := lw_tbl.filter goodWord
theorem x_good : ∀ w ∈ x_ws, (w.onTables && w.keeps) = true ∨ ∃ ty, w = .arrayClass ty := fun w h => good_of_word (List.mem_filter.mp h).2
theorem x_at {w : Cond} (i : Nat) (h : tables_1[i]? = some w) (hg : goodWord w = true) : w ∈ x_ws := List.mem_filter.mpr ⟨List.mem_append_right _ (List.mem_of_getElem? h), hg⟩
theorem x_sel {q : MethodName × Nat} (i : Nat) (h : lw_privs[i]? = some q) : Cond.selects q.1.cls q.1 q.1 ∈ x_ws := List.mem_filter.mpr ⟨List.mem_append_left _ (List.mem_map.mpr ⟨q, List.mem_of_getElem? h, rfl⟩), rfl⟩
def x_NF : List (String × Nat × String × String × String × String) := [("SequentMachine$Scribe", 62, "SequentMachine$Depth", "around", "I", "SequentMachine"), ("SequentMachine", 200, "SequentMachine$Shelf", "size", "I", "SequentMachine"), ("SequentMachine", 164, "SequentMachine$Hypotheses", "rows", "[LSequentMachine$Row;", "SequentMachine"), ("SequentMachine", 161, "SequentMachine$Hypotheses", "size", "I", "SequentMachine"), ("SequentMachine$Equation", 29, "SequentMachine$Row", "size", "I", "SequentMachine"), ("SequentMachine$Item", 23, "SequentMachine$Row", "size", "I", "SequentMachine"), ("SequentMachine$Hypotheses", 35, "SequentMachine$Row", "size", "I", "SequentMachine"), ("SequentMachine$Scribe", 47, "SequentMachine$Row", "size", "I", "SequentMachine"), ("SequentMachine", 210, "SequentMachine$Row", "size", "I", "SequentMachine"), ("SequentMachine", 204, "SequentMachine$Item", "sort", "I", "SequentMachine"), ("SequentMachine", 132, "SequentMachine$Item", "main", "LSequentMachine$Row;", "SequentMachine"), ("SequentMachine", 140, "SequentMachine$Item", "hypotheses", "LSequentMachine$Hypotheses;", "SequentMachine"), ("SequentMachine", 155, "SequentMachine$Equation", "type", "LSequentMachine$Row;", "SequentMachine"), ("SequentMachine", 147, "SequentMachine$Equation", "left", "LSequentMachine$Row;", "SequentMachine"), ("SequentMachine", 152, "SequentMachine$Equation", "right", "LSequentMachine$Row;", "SequentMachine")]
def x_NM : List (String × Nat × MethodName × String) := [("SequentMachine", 9, ⟨"SequentMachine$Scribe", "<init>", "()V"⟩, "SequentMachine"), ("SequentMachine$Scribe", 17, ⟨"SequentMachine$Depth", "<init>", "()V"⟩, "SequentMachine"), ("SequentMachine", 45, ⟨"SequentMachine$Hypotheses", "<init>", "()V"⟩, "SequentMachine")]
def x_N : List Cond := x_NF.map (fun q => Cond.fieldLinkNest q.1 q.2.1 q.2.2.1 q.2.2.2.1 q.2.2.2.2.1 q.2.2.2.2.2) ++ x_NM.map (fun q => Cond.methodLinkNest q.1 q.2.1 q.2.2.1 q.2.2.2)
theorem ck_0 : ∀ w ∈ u_ws "SequentMachine$Depth" ct_0 3, w ∈ x_ws := by
  intro w hw
  obtain ⟨k, hk, rfl⟩ := List.mem_map.mp hw
  have hk := List.mem_range.mp hk
  rcases (show k = 0 ∨ k = 1 ∨ k = 2 by omega) with rfl | rfl | rfl
  · exact x_at 37 (by decide +kernel) rfl
  · exact x_at 39 (by decide +kernel) rfl
  · exact x_at 41 (by decide +kernel) rfl
theorem ck_1 : ∀ w ∈ u_ws "SequentMachine$Equation" ct_1 3, w ∈ x_ws := by
  intro w hw
  obtain ⟨k, hk, rfl⟩ := List.mem_map.mp hw
  have hk := List.mem_range.mp hk
  rcases (show k = 0 ∨ k = 1 ∨ k = 2 by omega) with rfl | rfl | rfl
  · exact x_at 438 (by decide +kernel) rfl
  · exact x_at 440 (by decide +kernel) rfl
  · exact x_at 442 (by decide +kernel) rfl
theorem ck_2 : ∀ w ∈ u_ws "SequentMachine$Hypotheses" ct_2 2, w ∈ x_ws := by
  intro w hw
  obtain ⟨k, hk, rfl⟩ := List.mem_map.mp hw
  have hk := List.mem_range.mp hk
  rcases (show k = 0 ∨ k = 1 by omega) with rfl | rfl
  · exact x_at 89 (by decide +kernel) rfl
  · exact x_at 91 (by decide +kernel) rfl
theorem ck_3 : ∀ w ∈ u_ws "SequentMachine$Item" ct_3 3, w ∈ x_ws := by
  intro w hw
  obtain ⟨k, hk, rfl⟩ := List.mem_map.mp hw
  have hk := List.mem_range.mp hk
  rcases (show k = 0 ∨ k = 1 ∨ k = 2 by omega) with rfl | rfl | rfl
  · exact x_at 189 (by decide +kernel) rfl
  · exact x_at 191 (by decide +kernel) rfl
  · exact x_at 193 (by decide +kernel) rfl
theorem ck_4 : ∀ w ∈ u_ws "SequentMachine$Row" ct_4 3, w ∈ x_ws := by
  intro w hw
  obtain ⟨k, hk, rfl⟩ := List.mem_map.mp hw
  have hk := List.mem_range.mp hk
  rcases (show k = 0 ∨ k = 1 ∨ k = 2 by omega) with rfl | rfl | rfl
  · exact x_at 167 (by decide +kernel) rfl
  · exact x_at 169 (by decide +kernel) rfl
  · exact x_at 171 (by decide +kernel) rfl
theorem ck_5 : ∀ w ∈ u_ws "SequentMachine$Scribe" ct_5 4, w ∈ x_ws := by
  intro w hw
  obtain ⟨k, hk, rfl⟩ := List.mem_map.mp hw
  have hk := List.mem_range.mp hk
  rcases (show k = 0 ∨ k = 1 ∨ k = 2 ∨ k = 3 by omega) with rfl | rfl | rfl | rfl
  · exact x_at 51 (by decide +kernel) rfl
  · exact x_at 53 (by decide +kernel) rfl
  · exact x_at 55 (by decide +kernel) rfl
  · exact x_at 57 (by decide +kernel) rfl
theorem ck_6 : ∀ w ∈ u_ws "SequentMachine$Shelf" ct_6 2, w ∈ x_ws := by
  intro w hw
  obtain ⟨k, hk, rfl⟩ := List.mem_map.mp hw
  have hk := List.mem_range.mp hk
  rcases (show k = 0 ∨ k = 1 by omega) with rfl | rfl
  · exact x_at 71 (by decide +kernel) rfl
  · exact x_at 73 (by decide +kernel) rfl
theorem ck_7 : ∀ w ∈ u_ws "SequentMachine" ct_7 9, w ∈ x_ws := by
  intro w hw
  obtain ⟨k, hk, rfl⟩ := List.mem_map.mp hw
  have hk := List.mem_range.mp hk
  rcases (show k = 0 ∨ k = 1 ∨ k = 2 ∨ k = 3 ∨ k = 4 ∨ k = 5 ∨ k = 6 ∨ k = 7 ∨ k = 8 by omega) with rfl | rfl | rfl | rfl | rfl | rfl | rfl | rfl | rfl
  · exact x_at 103 (by decide +kernel) rfl
  · exact x_at 105 (by decide +kernel) rfl
  · exact x_at 107 (by decide +kernel) rfl
  · exact x_at 109 (by decide +kernel) rfl
  · exact x_at 111 (by decide +kernel) rfl
  · exact x_at 113 (by decide +kernel) rfl
  · exact x_at 115 (by decide +kernel) rfl
  · exact x_at 117 (by decide +kernel) rfl
  · exact x_at 119 (by decide +kernel) rfl
theorem ck_8 : ∀ w ∈ u_ws "SequentMachineModel" ct_8 15, w ∈ x_ws := by
  intro w hw
  obtain ⟨k, hk, rfl⟩ := List.mem_map.mp hw
  have hk := List.mem_range.mp hk
  rcases (show k = 0 ∨ k = 1 ∨ k = 2 ∨ k = 3 ∨ k = 4 ∨ k = 5 ∨ k = 6 ∨ k = 7 ∨ k = 8 ∨ k = 9 ∨ k = 10 ∨ k = 11 ∨ k = 12 ∨ k = 13 ∨ k = 14 by omega) with rfl | rfl | rfl | rfl | rfl | rfl | rfl | rfl | rfl | rfl | rfl | rfl | rfl | rfl | rfl
  · exact x_at 573 (by decide +kernel) rfl
  · exact x_at 575 (by decide +kernel) rfl
  · exact x_at 577 (by decide +kernel) rfl
  · exact x_at 579 (by decide +kernel) rfl
  · exact x_at 581 (by decide +kernel) rfl
  · exact x_at 583 (by decide +kernel) rfl
  · exact x_at 585 (by decide +kernel) rfl
  · exact x_at 587 (by decide +kernel) rfl
  · exact x_at 589 (by decide +kernel) rfl
  · exact x_at 591 (by decide +kernel) rfl
  · exact x_at 593 (by decide +kernel) rfl
  · exact x_at 595 (by decide +kernel) rfl
  · exact x_at 597 (by decide +kernel) rfl
  · exact x_at 599 (by decide +kernel) rfl
  · exact x_at 601 (by decide +kernel) rfl
