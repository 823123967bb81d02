/-! what the library does natively: a stretch of numbers is copied, an array is cloned -/
section XL
variable {M : xM} {pc : Nat} {L : List (Option xV)} {st : List xV} {h : xH}
theorem xs_copy {idx a0 a n : Nat} {f g : List Int} (hd : decode M.2.1 pc = .ok (.invokestatic idx, 3)) (hlk : Cond.methodLink M.1.cls idx arraycopyName ∈ x_ws ∧ Cond.native arraycopyName ∈ x_ws ∧ Cond.static arraycopyName ∈ x_ws ∧ Cond.initialized "java/lang/System" ∈ x_ws) (ha0 : h.1[a0]? = some (.inl f)) (ha : h.1[a]? = some (.inl g)) (hn : n ≤ 100000) (hf : n ≤ f.length) (hg : n = g.length) (hrr : 1 ≤ M.2.2.2.2.1 ∧ st.length + (nativeFrameWords "java/lang/System" "arraycopy" 5 + 11) ≤ M.2.2.2.2.2) : x_S M pc L (.inl (n : Int) :: .inl 0 :: .inr (some a) :: .inl 0 :: .inr (some a0) :: st) h (pc + 3) L st (h.1.set a (.inl (f.take n)), h.2) := by
  intro r hf' hb
  obtain ⟨hle, hw⟩ := hb
  refine ⟨by simpa using hle, fun p l e s m args below meth c H locs ls d k0 n0 hC hR hL h1 h2 hq => ?_⟩
  have hC' := hC
  obtain ⟨hx, hbt, hml, hown, hts, hret, hlk', hnm, hK⟩ := hC'
  have hla : a < h.1.length := (List.getElem?_eq_some_iff.mp ha).1
  have c0 : H[d.1 + a0]? = some (arrV (d.2.2 0) f.length (fun j => .int (Int32.ofInt (f.getD j 0)))) := hR.2 a0 _ ha0
  have c1 : H[d.1 + a]? = some (arrV (d.2.2 0) g.length (fun j => .int (Int32.ofInt (g.getD j 0)))) := hR.2 a _ ha
  obtain ⟨-, q0, hk0, m0, kk0⟩ := (hK.1.2 0 _ rfl).1 f.length (fun j => .int (Int32.ofInt (f.getD j 0)))
  obtain ⟨-, q1, hk1, m1, kk1⟩ := (hK.1.2 0 _ rfl).1 g.length (fun j => .int (Int32.ofInt (g.getD j 0)))
  have hcl : (Int32.ofInt (n : Int)).toNatClampNeg = n := by rw [x_cl (by omega) (by omega)]; rfl
  have hti : (Int32.ofInt (n : Int)).toInt = (n : Int) := by
    have hz := Int32.not_lt.mp (x_n0 (j := (n : Int)) (by omega) (by omega))
    have hz0 : (0 : Int) ≤ (Int32.ofInt (n : Int)).toInt := by simpa using Int32.le_iff_toInt_le.mp hz
    have hz1 : (Int32.ofInt (n : Int)).toNatClampNeg = (Int32.ofInt (n : Int)).toInt.toNat := rfl
    omega
  have hz0 : (Int32.ofInt 0).toNatClampNeg = 0 := rfl
  have hzi : (Int32.ofInt 0).toInt = 0 := rfl
  have hlen : ((st.map (x_v d.1)).map fun v => v.category).sum = st.length := x_sum d.1 st
  intro T hT X
  obtain ⟨vm', X', step⟩ := X.arraycopy hx hown (hts _ (List.mem_cons_of_mem _ hlk.1)) (hts _ (List.mem_cons_of_mem _ hlk.2.1)) (hts _ (List.mem_cons_of_mem _ hlk.2.2.1)) (hts _ (List.mem_cons_of_mem _ hlk.2.2.2)) (src := d.1 + a0) (dst := d.1 + a) (srcPos := Int32.ofInt 0) (destPos := Int32.ofInt 0) (n := Int32.ofInt (n : Int)) (cs := arrV (d.2.2 0) f.length (fun j => .int (Int32.ofInt (f.getD j 0)))) (cd := arrV (d.2.2 0) g.length (fun j => .int (Int32.ofInt (g.getD j 0)))) (sType := .int) (dType := .int) (by rw [hT]; exact c0) (by rw [hT]; exact c1) (fun _ z => by cases z) (fun _ z => by cases z) (fun z => by cases z) (fun z => by cases z) hk0 hk1 kk0 kk1 (by decide) (x_n0 (by omega) (by omega)) (x_n0 (by omega) (by omega)) (x_n0 (by omega) (by omega)) (by rw [hzi, hti, arrV_size]; omega) (by rw [hzi, hti, arrV_size]; omega)
    (fun vm₁ _ i hi => by
      rw [hcl] at hi
      have e : (arrV (d.2.2 0) f.length (fun j => .int (Int32.ofInt (f.getD j 0)))).slots.getD ((Int32.ofInt 0).toNatClampNeg + i) .null = .int (Int32.ofInt (f.getD i 0)) := by
        rw [Array.getD_eq_getD_getElem?, arrV_read _ _ (by rw [hz0]; omega), hz0, Nat.zero_add]
        rfl
      rw [e]
      exact ⟨rfl, trivial⟩)
    (g := F0 m pc ls ((.inl (n : Int) :: .inl 0 :: .inr (some a) :: .inl 0 :: .inr (some a0) :: st : List xV).map (x_v d.1))) rfl (by rw [hml]; exact hL.1) (rest := st.map (x_v d.1)) rfl (by rw [hbt]; exact hd) hrr.1 (by rw [hlen]; show 2 * 0 + _ + _ ≤ M.2.2.2.2.2; have := hrr.2; omega)
  have e1 : copied (arrV (d.2.2 0) f.length (fun j => .int (Int32.ofInt (f.getD j 0)))) (arrV (d.2.2 0) g.length (fun j => .int (Int32.ofInt (g.getD j 0)))) (Int32.ofInt 0) (Int32.ofInt 0) (Int32.ofInt (n : Int)) = arrV (d.2.2 0) g.length (fun j => .int (va_cpy (fun j => Int32.ofInt (f.getD j 0)) (fun j => Int32.ofInt (g.getD j 0)) 0 0 n j)) := by
    have := va_copied (fun z => Value.int z) (d.2.2 0) (d.2.2 0) (n0 := f.length) (n1 := g.length) (sp := 0) (dp := 0) (n := n) (fun j => Int32.ofInt (f.getD j 0)) (fun j => Int32.ofInt (g.getD j 0)) (by omega)
    rw [← this]
    show (arrV _ _ _).storeRun _ _ = _
    rw [hcl]
    rfl
  rw [e1] at X' step
  generalize hH1 : H.setIfInBounds (d.1 + a) (arrV (d.2.2 0) g.length (fun j => .int (va_cpy (fun j => Int32.ofInt (f.getD j 0)) (fun j => Int32.ofInt (g.getD j 0)) 0 0 n j))) = H1
  have z1 : H1.size = H.size := by rw [← hH1]; simp
  have o1 : ∀ q : Nat, q ≠ d.1 + a → H1[q]? = H[q]? := fun q hq => by rw [← hH1]; simp [Array.getElem?_setIfInBounds, Ne.symm hq]
  have g1 : H1[d.1 + a]? = some (arrV (d.2.2 0) g.length (fun j => .int (va_cpy (fun j => Int32.ofInt (f.getD j 0)) (fun j => Int32.ofInt (g.getD j 0)) 0 0 n j))) := by
    have hl : d.1 + a < H.size := (Array.getElem?_eq_some_iff.mp c1).1
    rw [← hH1]
    simp [Array.getElem?_setIfInBounds, hl]
  have hcell : va_at d.2.1 cl_s (d.1 + a, x_e d (.inl (f.take n))) H1 := by
    show H1[d.1 + a]? = some (vp_cell _ _)
    rw [g1, vp_cell_i, List.length_take, Nat.min_eq_left hf, hg]
    unfold arrV
    congr 2
    apply Array.ext
    · simp
    · intro i i1 i2
      simp at i1
      simp [va_cpy, List.getD_eq_getElem?_getD, List.getElem?_take]
  have hw' := hw p l e s m args below meth c H1 (locs ++ ((arrV (d.2.2 0) f.length (fun j => .int (Int32.ofInt (f.getD j 0)))).stretch (Int32.ofInt 0).toNatClampNeg (Int32.ofInt (n : Int)).toNatClampNeg).zipIdx.map fun q => ⟨d.1 + a, (Int32.ofInt 0).toNatClampNeg + q.2⟩) ls d k0 n0 hC (hR.set hla z1 o1 hcell) hL (by rw [List.length_set]; exact h1) h2 (fun q hq' => by
    rcases List.mem_append.mp hq' with z | z
    · exact hq q z
    · obtain ⟨y, -, hy⟩ := List.mem_map.mp z
      rw [← hy]
      exact Nat.le_add_right _ _)
  have hw'' := W.cs (cells := h.1.length - k0) (slots := h.2 - n0) (by rw [List.length_set]) rfl hw'
  obtain ⟨t, b1, b2⟩ := hw'' _ (by rw [← hH1, ← hT]; rfl) X'
  exact ⟨t, step t b1, b2⟩
theorem xs_clone {idx a : Nat} {f : List Int} (hd : decode M.2.1 pc = .ok (.invokevirtual idx, 3)) (hlk : Cond.methodLink M.1.cls idx ⟨"[I", "clone", "()Ljava/lang/Object;"⟩ ∈ x_ws ∧ Cond.sameMethod "[I" "java/lang/Object" "clone" "()Ljava/lang/Object;" ∈ x_ws ∧ Cond.native ⟨"java/lang/Object", "clone", "()Ljava/lang/Object;"⟩ ∈ x_ws ∧ Cond.instanceMethod ⟨"java/lang/Object", "clone", "()Ljava/lang/Object;"⟩ ∈ x_ws ∧ Cond.selects "[I" ⟨"[I", "clone", "()Ljava/lang/Object;"⟩ ⟨"java/lang/Object", "clone", "()Ljava/lang/Object;"⟩ ∈ x_ws) (ha : h.1[a]? = some (.inl f)) (hrr : 1 ≤ M.2.2.2.2.1 ∧ st.length + 14 ≤ M.2.2.2.2.2) : x_S M pc L (.inr (some a) :: st) h (pc + 3) L (.inr (some h.1.length) :: st) (h.1 ++ [.inl f], h.2 + f.length) := by
  intro r hf' hb
  obtain ⟨hle, hw⟩ := hb
  simp only [List.length_append, List.length_cons, List.length_nil] at hle
  refine ⟨by omega, fun p l e s m args below meth c H locs ls d k0 n0 hC hR hL h1 h2 hq => ?_⟩
  have hC' := hC
  obtain ⟨hx, hbt, hml, hown, hts, hret, hlk', hnm, hK⟩ := hC'
  have c0 : H[d.1 + a]? = some (arrV (d.2.2 0) f.length (fun j => .int (Int32.ofInt (f.getD j 0)))) := hR.2 a _ ha
  have hnmA : s.vm.findClass "[I" = some (d.2.2 0) := (hK.1.2 0 _ rfl).2
  obtain ⟨x0, t0, f1, f2, f3⟩ := Cond.castable_spec (va_Nw.use (A := args) rfl hK.2.2.2.2)
  cases hnmA.symm.trans f1
  have hlen : ((st.map (x_v d.1)).map fun v => v.category).sum = st.length := x_sum d.1 st
  intro T hT X
  obtain ⟨-, kA, hkA, comp, hkind⟩ := State.isArrayOf_alike X.warmed.alike ((hK.1.2 0 _ rfl).1 0 (fun _ => .null))
  obtain ⟨-, kS, hkS, compS, hkindS⟩ := (hK.1.2 0 _ rfl).1 0 (fun _ => .null)
  obtain ⟨vm', X', step⟩ := X.cloneArray hx hown (hts _ (List.mem_cons_of_mem _ hlk.1)) (hts _ (List.mem_cons_of_mem _ hlk.2.1)) (hts _ (List.mem_cons_of_mem _ hlk.2.2.1)) (hts _ (List.mem_cons_of_mem _ hlk.2.2.2.1)) (hts _ (List.mem_cons_of_mem _ hlk.2.2.2.2)) (a := d.1 + a) (cell := arrV (d.2.2 0) f.length (fun j => .int (Int32.ofInt (f.getD j 0)))) (by rw [hT]; exact c0) (fun _ z => by cases z) (fun z => by cases z) hnmA f2 f3
    (fun i v hv => by
      have hk' : T.vm.classes[d.2.2 0]? = some kA := hkA
      have hi : i < f.length := by
        have := (Array.getElem?_eq_some_iff.mp hv).1
        rw [arrV_size] at this
        exact this
      rw [arrV_read _ _ hi] at hv
      have hv' : Value.int (Int32.ofInt (f.getD i 0)) = v := Option.some.inj hv
      rw [← hv']
      show State.fitsSlot _ (d.2.2 0) _ _ _ = true
      simp [State.fitsSlot, State.slotType?, hk', hkind]
      rfl)
    (g := F0 m pc ls ((.inr (some a) :: st : List xV).map (x_v d.1))) rfl (by rw [hml]; exact hL.1) (rest := st.map (x_v d.1)) rfl (by rw [hbt]; exact hd) hrr.1 (by rw [hlen]; show 2 * 0 + _ + _ ≤ M.2.2.2.2.2; have := hrr.2; omega) (by show _ ≤ hf'.1.length - k0; omega) (by rw [arrV_size]; show _ ≤ hf'.2 - n0; omega) (hloader := Vm.clonesLoader_of_array hkS hkindS)
  rw [arrV_size] at X'
  generalize hH1 : H.push (arrV (d.2.2 0) f.length (fun j => .int (Int32.ofInt (f.getD j 0)))) = H1
  have z1 : H1.size = H.size + 1 := by rw [← hH1, Array.size_push]
  have g1 : H1[H.size]? = some (arrV (d.2.2 0) f.length (fun j => .int (Int32.ofInt (f.getD j 0)))) := by rw [← hH1, Array.getElem?_push_size]
  have o1 : ∀ q : Nat, q < H.size → H1[q]? = H[q]? := fun q hq => by rw [← hH1, Array.getElem?_push, if_neg (Nat.ne_of_lt hq)]
  have hw' := hw p l e s m args below meth c H1 locs ls d k0 n0 hC (hR.push (c' := .inl f) z1 o1 g1) hL (by simp; omega) (by simp; omega) hq
  have hw'' := W.cs (cells := h.1.length - k0 + 1) (slots := h.2 - n0 + f.length) (cells' := (h.1 ++ ([Sum.inl f] : List xC)).length - k0) (slots' := h.2 + f.length - n0) (by simp; omega) (by omega) hw'
  obtain ⟨t, b1, b2⟩ := hw'' _ (by rw [← hH1, ← hT]; rfl) X'
  refine ⟨t, step t ?_, b2⟩
  rw [hT, hR.1]
  exact b1
theorem xs_castA {idx a : Nat} {f : List Int} (hd : decode M.2.1 pc = .ok (.checkcast idx, 3)) (hlk : Cond.classLink M.1.cls idx "[I" ∈ x_ws) (ha : h.1[a]? = some (.inl f)) : x_S M pc L (.inr (some a) :: st) h (pc + 3) L (.inr (some a) :: st) h := by
  intro r hf' hb
  obtain ⟨hle, hw⟩ := hb
  refine ⟨hle, fun p l e s m args below meth c H locs ls d k0 n0 hC hR hL h1 h2 hq => ?_⟩
  have hC' := hC
  obtain ⟨hx, hbt, hml, hown, hts, hret, hlk', hnm, hK⟩ := hC'
  exact va_castA hx hbt hown (hts _ (List.mem_cons_of_mem _ hlk)) (hR.sing ha) 0 rfl (hK.1.2 0 _ rfl).2 hd (hw p l e s m args below meth c H locs ls d k0 n0 hC hR hL h1 h2 hq)
end XL
theorem lx_copy : Cond.methodLink "java/util/Arrays" 150 arraycopyName ∈ x_ws ∧ Cond.native arraycopyName ∈ x_ws ∧ Cond.static arraycopyName ∈ x_ws ∧ Cond.initialized "java/lang/System" ∈ x_ws := ⟨x_at 152 (by decide +kernel) rfl, x_at 154 (by decide +kernel) rfl, x_at 153 (by decide +kernel) rfl, x_at 10 (by decide +kernel) rfl⟩
theorem lx_clone : Cond.methodLink "java/util/Arrays" 316 ⟨"[I", "clone", "()Ljava/lang/Object;"⟩ ∈ x_ws ∧ Cond.sameMethod "[I" "java/lang/Object" "clone" "()Ljava/lang/Object;" ∈ x_ws ∧ Cond.native ⟨"java/lang/Object", "clone", "()Ljava/lang/Object;"⟩ ∈ x_ws ∧ Cond.instanceMethod ⟨"java/lang/Object", "clone", "()Ljava/lang/Object;"⟩ ∈ x_ws ∧ Cond.selects "[I" ⟨"[I", "clone", "()Ljava/lang/Object;"⟩ ⟨"java/lang/Object", "clone", "()Ljava/lang/Object;"⟩ ∈ x_ws := ⟨x_at 142 (by decide +kernel) rfl, x_at 143 (by decide +kernel) rfl, x_at 144 (by decide +kernel) rfl, x_at 145 (by decide +kernel) rfl, x_at 146 (by decide +kernel) rfl⟩
theorem lx_cast : Cond.classLink "java/util/Arrays" 317 "[I" ∈ x_ws := x_at 148 (by decide +kernel) rfl
