/-! what the tables say at the law's entry -/
theorem yn_0 : Cond.fieldLinkNest "SequentMachine$Scribe" 62 "SequentMachine$Depth" "around" "I" "SequentMachine" ∈ lw_tbl := List.mem_append_right _ (List.mem_of_getElem? (i := 35) (by decide +kernel))
theorem yn_1 : Cond.fieldLinkNest "SequentMachine" 200 "SequentMachine$Shelf" "size" "I" "SequentMachine" ∈ lw_tbl := List.mem_append_right _ (List.mem_of_getElem? (i := 70) (by decide +kernel))
theorem yn_2 : Cond.fieldLinkNest "SequentMachine" 164 "SequentMachine$Hypotheses" "rows" "[LSequentMachine$Row;" "SequentMachine" ∈ lw_tbl := List.mem_append_right _ (List.mem_of_getElem? (i := 86) (by decide +kernel))
theorem yn_3 : Cond.fieldLinkNest "SequentMachine" 161 "SequentMachine$Hypotheses" "size" "I" "SequentMachine" ∈ lw_tbl := List.mem_append_right _ (List.mem_of_getElem? (i := 88) (by decide +kernel))
theorem yn_4 : Cond.fieldLinkNest "SequentMachine$Equation" 29 "SequentMachine$Row" "size" "I" "SequentMachine" ∈ lw_tbl := List.mem_append_right _ (List.mem_of_getElem? (i := 161) (by decide +kernel))
theorem yn_5 : Cond.fieldLinkNest "SequentMachine$Item" 23 "SequentMachine$Row" "size" "I" "SequentMachine" ∈ lw_tbl := List.mem_append_right _ (List.mem_of_getElem? (i := 163) (by decide +kernel))
theorem yn_6 : Cond.fieldLinkNest "SequentMachine$Hypotheses" 35 "SequentMachine$Row" "size" "I" "SequentMachine" ∈ lw_tbl := List.mem_append_right _ (List.mem_of_getElem? (i := 164) (by decide +kernel))
theorem yn_7 : Cond.fieldLinkNest "SequentMachine$Scribe" 47 "SequentMachine$Row" "size" "I" "SequentMachine" ∈ lw_tbl := List.mem_append_right _ (List.mem_of_getElem? (i := 165) (by decide +kernel))
theorem yn_8 : Cond.fieldLinkNest "SequentMachine" 210 "SequentMachine$Row" "size" "I" "SequentMachine" ∈ lw_tbl := List.mem_append_right _ (List.mem_of_getElem? (i := 166) (by decide +kernel))
theorem yn_9 : Cond.fieldLinkNest "SequentMachine" 204 "SequentMachine$Item" "sort" "I" "SequentMachine" ∈ lw_tbl := List.mem_append_right _ (List.mem_of_getElem? (i := 184) (by decide +kernel))
theorem yn_10 : Cond.fieldLinkNest "SequentMachine" 132 "SequentMachine$Item" "main" "LSequentMachine$Row;" "SequentMachine" ∈ lw_tbl := List.mem_append_right _ (List.mem_of_getElem? (i := 186) (by decide +kernel))
theorem yn_11 : Cond.fieldLinkNest "SequentMachine" 140 "SequentMachine$Item" "hypotheses" "LSequentMachine$Hypotheses;" "SequentMachine" ∈ lw_tbl := List.mem_append_right _ (List.mem_of_getElem? (i := 188) (by decide +kernel))
theorem yn_12 : Cond.fieldLinkNest "SequentMachine" 155 "SequentMachine$Equation" "type" "LSequentMachine$Row;" "SequentMachine" ∈ lw_tbl := List.mem_append_right _ (List.mem_of_getElem? (i := 433) (by decide +kernel))
theorem yn_13 : Cond.fieldLinkNest "SequentMachine" 147 "SequentMachine$Equation" "left" "LSequentMachine$Row;" "SequentMachine" ∈ lw_tbl := List.mem_append_right _ (List.mem_of_getElem? (i := 435) (by decide +kernel))
theorem yn_14 : Cond.fieldLinkNest "SequentMachine" 152 "SequentMachine$Equation" "right" "LSequentMachine$Row;" "SequentMachine" ∈ lw_tbl := List.mem_append_right _ (List.mem_of_getElem? (i := 437) (by decide +kernel))
theorem yn_15 : Cond.methodLinkNest "SequentMachine" 9 ⟨"SequentMachine$Scribe", "<init>", "()V"⟩ "SequentMachine" ∈ lw_tbl := List.mem_append_right _ (List.mem_of_getElem? (i := 23) (by decide +kernel))
theorem yn_16 : Cond.methodLinkNest "SequentMachine$Scribe" 17 ⟨"SequentMachine$Depth", "<init>", "()V"⟩ "SequentMachine" ∈ lw_tbl := List.mem_append_right _ (List.mem_of_getElem? (i := 29) (by decide +kernel))
theorem yn_17 : Cond.methodLinkNest "SequentMachine" 45 ⟨"SequentMachine$Hypotheses", "<init>", "()V"⟩ "SequentMachine" ∈ lw_tbl := List.mem_append_right _ (List.mem_of_getElem? (i := 80) (by decide +kernel))
theorem yn_all : ∀ w ∈ x_N, w ∈ lw_tbl := List.forall_mem_cons.mpr ⟨yn_0, List.forall_mem_cons.mpr ⟨yn_1, List.forall_mem_cons.mpr ⟨yn_2, List.forall_mem_cons.mpr ⟨yn_3, List.forall_mem_cons.mpr ⟨yn_4, List.forall_mem_cons.mpr ⟨yn_5, List.forall_mem_cons.mpr ⟨yn_6, List.forall_mem_cons.mpr ⟨yn_7, List.forall_mem_cons.mpr ⟨yn_8, List.forall_mem_cons.mpr ⟨yn_9, List.forall_mem_cons.mpr ⟨yn_10, List.forall_mem_cons.mpr ⟨yn_11, List.forall_mem_cons.mpr ⟨yn_12, List.forall_mem_cons.mpr ⟨yn_13, List.forall_mem_cons.mpr ⟨yn_14, List.forall_mem_cons.mpr ⟨yn_15, List.forall_mem_cons.mpr ⟨yn_16, List.forall_mem_cons.mpr ⟨yn_17, fun _ h => absurd h List.not_mem_nil⟩⟩⟩⟩⟩⟩⟩⟩⟩⟩⟩⟩⟩⟩⟩⟩⟩⟩
theorem yn_on : ∀ w ∈ x_N, w.onTables = true := List.forall_mem_cons.mpr ⟨rfl, List.forall_mem_cons.mpr ⟨rfl, List.forall_mem_cons.mpr ⟨rfl, List.forall_mem_cons.mpr ⟨rfl, List.forall_mem_cons.mpr ⟨rfl, List.forall_mem_cons.mpr ⟨rfl, List.forall_mem_cons.mpr ⟨rfl, List.forall_mem_cons.mpr ⟨rfl, List.forall_mem_cons.mpr ⟨rfl, List.forall_mem_cons.mpr ⟨rfl, List.forall_mem_cons.mpr ⟨rfl, List.forall_mem_cons.mpr ⟨rfl, List.forall_mem_cons.mpr ⟨rfl, List.forall_mem_cons.mpr ⟨rfl, List.forall_mem_cons.mpr ⟨rfl, List.forall_mem_cons.mpr ⟨rfl, List.forall_mem_cons.mpr ⟨rfl, List.forall_mem_cons.mpr ⟨rfl, fun _ h => absurd h List.not_mem_nil⟩⟩⟩⟩⟩⟩⟩⟩⟩⟩⟩⟩⟩⟩⟩⟩⟩⟩
theorem yo_0 : Cond.arrayOver (.object "SequentMachine$Row") ∈ lw_tbl := List.mem_append_right _ (List.mem_of_getElem? (i := 46) (by decide +kernel))
theorem yo_1 : Cond.arrayOver (.object "SequentMachine$Item") ∈ lw_tbl := List.mem_append_right _ (List.mem_of_getElem? (i := 67) (by decide +kernel))
theorem yo_2 : Cond.castable "[I" "java/lang/Cloneable" ∈ lw_tbl := List.mem_append_right _ (List.mem_of_getElem? (i := 147) (by decide +kernel))
theorem y_K {s : State} {args : Array Value} (hts : ∀ w ∈ lw_tbl, w.before args s = true) : ∃ d : xD, d.1 = s.heap.size ∧ x_K d s := by
  have hws : ∀ w ∈ x_ws, w.before args s = true := fun w hw => hts w (List.mem_filter.mp hw).1
  obtain ⟨c0, i0, k0⟩ := u_known (ws := x_ws) (C := "SequentMachine$Depth") (T := ct_0) (N := 3) (n := 3) hws ck_0 (hws _ (x_at 28 (by decide +kernel) rfl))
  obtain ⟨c1, i1, k1⟩ := u_known (ws := x_ws) (C := "SequentMachine$Equation") (T := ct_1) (N := 3) (n := 3) hws ck_1 (hws _ (x_at 424 (by decide +kernel) rfl))
  obtain ⟨c2, i2, k2⟩ := u_known (ws := x_ws) (C := "SequentMachine$Hypotheses") (T := ct_2) (N := 2) (n := 2) hws ck_2 (hws _ (x_at 79 (by decide +kernel) rfl))
  obtain ⟨c3, i3, k3⟩ := u_known (ws := x_ws) (C := "SequentMachine$Item") (T := ct_3) (N := 3) (n := 3) hws ck_3 (hws _ (x_at 178 (by decide +kernel) rfl))
  obtain ⟨c4, i4, k4⟩ := u_known (ws := x_ws) (C := "SequentMachine$Row") (T := ct_4) (N := 3) (n := 3) hws ck_4 (hws _ (x_at 138 (by decide +kernel) rfl))
  obtain ⟨c5, i5, k5⟩ := u_known (ws := x_ws) (C := "SequentMachine$Scribe") (T := ct_5) (N := 4) (n := 4) hws ck_5 (hws _ (x_at 22 (by decide +kernel) rfl))
  obtain ⟨c6, i6, k6⟩ := u_known (ws := x_ws) (C := "SequentMachine$Shelf") (T := ct_6) (N := 2) (n := 2) hws ck_6 (hws _ (x_at 61 (by decide +kernel) rfl))
  obtain ⟨c7, i7, k7⟩ := u_known (ws := x_ws) (C := "SequentMachine") (T := ct_7) (N := 9) (n := 9) hws ck_7 (hws _ (x_at 14 (by decide +kernel) rfl))
  obtain ⟨c8, i8, k8⟩ := u_known (ws := x_ws) (C := "SequentMachineModel") (T := ct_8) (N := 15) (n := 15) hws ck_8 (hws _ (x_at 553 (by decide +kernel) rfl))
  obtain ⟨aI, kI, coI, f1, f2, f3⟩ := Cond.arrayClass_spec (hws _ la_int)
  obtain ⟨coR, aR, kR, r1, r2, r3, r4, r5⟩ := Cond.arrayOver_spec (hts _ yo_0)
  obtain ⟨coT, aT, kT, t1, t2, t3, t4, t5⟩ := Cond.arrayOver_spec (hts _ yo_1)
  let dC : Nat → ClassId := fun k => match k with
    | 0 => c0
    | 1 => c1
    | 2 => c2
    | 3 => c3
    | 4 => c4
    | 5 => c5
    | 6 => c6
    | 7 => c7
    | _ => c8
  let dI : Nat → Nat → Nat := fun k => match k with
    | 0 => i0
    | 1 => i1
    | 2 => i2
    | 3 => i3
    | 4 => i4
    | 5 => i5
    | 6 => i6
    | 7 => i7
    | _ => i8
  let dA : Nat → ClassId := fun k => match k with
    | 0 => aI
    | 1 => aR
    | _ => aT
  refine ⟨(s.heap.size, (dC, dI), dA), rfl, ⟨fun ci q hq => ?_, fun k q hq => ?_⟩, fun w hw => va_Nw.of (yn_on w hw) (hts w (yn_all w hw)), va_AO.of (hts _ yo_0), va_AO.of (hts _ yo_1), va_Nw.of rfl (hts _ yo_2)⟩
  · have hl : ci < 9 := (List.getElem?_eq_some_iff.mp hq).1
    rcases (show ci = 0 ∨ ci = 1 ∨ ci = 2 ∨ ci = 3 ∨ ci = 4 ∨ ci = 5 ∨ ci = 6 ∨ ci = 7 ∨ ci = 8 by omega) with rfl | rfl | rfl | rfl | rfl | rfl | rfl | rfl | rfl
    · cases hq; exact k0
    · cases hq; exact k1
    · cases hq; exact k2
    · cases hq; exact k3
    · cases hq; exact k4
    · cases hq; exact k5
    · cases hq; exact k6
    · cases hq; exact k7
    · cases hq; exact k8
  · have hl : k < 3 := (List.getElem?_eq_some_iff.mp hq).1
    rcases (show k = 0 ∨ k = 1 ∨ k = 2 by omega) with rfl | rfl | rfl
    · cases hq; exact ⟨fun n z => ⟨fun k h => (by cases h), kI, f2, coI, f3⟩, f1⟩
    · cases hq; exact ⟨fun n z => ⟨fun k h => (by cases h), kR, r3, coR, r4⟩, kR, coR, r3, r4, r1, r5⟩
    · cases hq; exact ⟨fun n z => ⟨fun k h => (by cases h), kT, t3, coT, t4⟩, kT, coT, t3, t4, t1, t5⟩
