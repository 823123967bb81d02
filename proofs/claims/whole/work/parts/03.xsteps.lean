/-! The plain machine: ints are whole numbers, references are places in one list of cells; a step of it is a step of the real one -/
abbrev xV : Type := Int ⊕ Option Nat
abbrev xC : Type := List Int ⊕ ((Nat × List (Option Nat)) ⊕ (Nat × List xV))
abbrev xH : Type := List xC × Nat
abbrev xD : Type := Nat × va_G × (Nat → ClassId)
abbrev xM : Type := MethodName × ByteArray × Nat × Option FieldType × Nat × Nat
def x_r (b : Nat) (r : Option Nat) : Option Nat := r.map (fun a => b + a)
def x_v (b : Nat) : xV → Value
  | .inl i => .int (Int32.ofInt i)
  | .inr r => va_rf (x_r b r)
def x_e (d : xD) : xC → va_E
  | .inl l => .inl (d.2.2 0, l.length, .inl (fun j => Int32.ofInt (l.getD j 0)))
  | .inr (.inl q) => .inl (d.2.2 (q.1 + 1), q.2.length, .inr (.inr (.inr (.inr (fun j => x_r d.1 (q.2.getD j none))))))
  | .inr (.inr o) => .inr (o.1, o.2.map (x_v d.1))
def x_R (d : xD) (h : xH) (H : Heap) : Prop := H.size = d.1 + h.1.length ∧ ∀ (i : Nat) (c : xC), h.1[i]? = some c → va_at d.2.1 cl_s (d.1 + i, x_e d c) H
theorem x_R.sing {d : xD} {h : xH} {H : Heap} {i : Nat} {c : xC} (hR : x_R d h H) (hi : h.1[i]? = some c) : va_P d.2.1 cl_s [(d.1 + i, x_e d c)] H := by
  intro k q hk
  cases k with
  | zero => cases hk; exact hR.2 i c hi
  | succ k => simp at hk
theorem x_R.set {d : xD} {h : xH} {H H1 : Heap} {i : Nat} {c' : xC} (hR : x_R d h H) (hi : i < h.1.length) (hz : H1.size = H.size) (ho : ∀ q : Nat, q ≠ d.1 + i → H1[q]? = H[q]?) (hc : va_at d.2.1 cl_s (d.1 + i, x_e d c') H1) : x_R d (h.1.set i c', h.2) H1 := by
  refine ⟨by rw [hz, hR.1]; simp, fun j c hj => ?_⟩
  by_cases hij : j = i
  · subst hij
    rw [List.getElem?_set_self hi] at hj
    cases hj
    exact hc
  · rw [List.getElem?_set_ne (Ne.symm hij)] at hj
    exact (hR.2 j c hj).kept (ho _ (fun e => hij (Nat.add_left_cancel e)))
theorem x_R.push {d : xD} {h : xH} {H H1 : Heap} {c' : xC} {n : Nat} (hR : x_R d h H) (hz : H1.size = H.size + 1) (ho : ∀ q : Nat, q < H.size → H1[q]? = H[q]?) (hc : va_at d.2.1 cl_s (H.size, x_e d c') H1) : x_R d (h.1 ++ [c'], n) H1 := by
  refine ⟨by rw [hz, hR.1]; simp; omega, fun j c hj => ?_⟩
  by_cases hlt : j < h.1.length
  · rw [List.getElem?_append_left hlt] at hj
    exact (hR.2 j c hj).kept (ho _ (by rw [hR.1]; exact Nat.add_lt_add_left hlt _))
  · rw [List.getElem?_append_right (by omega)] at hj
    have hz : j - h.1.length < 1 := (List.getElem?_eq_some_iff.mp hj).1
    have e : j = h.1.length := by omega
    subst e
    simp at hj
    subst hj
    rw [← hR.1]
    exact hc
/-! ints -/
def wr (x : Int) : Int := (x + 2147483648) % 4294967296 - 2147483648
def ir (x : Int) : Prop := -2147483648 ≤ x ∧ x < 2147483648
theorem wr_toInt (x : Int) : (Int32.ofInt x).toInt = wr x := by
  rw [Int32.toInt_ofInt]
  show Int.bmod x 4294967296 = wr x
  unfold Int.bmod wr
  simp only
  split <;> omega
theorem wr_id {x : Int} (h : ir x) : wr x = x := by
  unfold ir at h
  unfold wr
  omega
theorem wr_ir (x : Int) : ir (wr x) := by
  unfold ir wr
  omega
theorem x_i32 (x : Int32) : ir x.toInt := ⟨Int32.le_toInt x, Int32.toInt_lt x⟩
theorem x_wr (x : Int) : Int32.ofInt (wr x) = Int32.ofInt x := Int32.toInt_inj.mp (by rw [wr_toInt, wr_toInt, wr_id (wr_ir x)])
theorem x_le {a b : Int} (ha : ir a) (hb : ir b) : Int32.ofInt a ≤ Int32.ofInt b ↔ a ≤ b := by rw [Int32.le_iff_toInt_le, wr_toInt, wr_toInt, wr_id ha, wr_id hb]
theorem x_lt {a b : Int} (ha : ir a) (hb : ir b) : Int32.ofInt a < Int32.ofInt b ↔ a < b := by rw [Int32.lt_iff_toInt_lt, wr_toInt, wr_toInt, wr_id ha, wr_id hb]
theorem x_eq {a b : Int} (ha : ir a) (hb : ir b) : Int32.ofInt a = Int32.ofInt b ↔ a = b := by rw [← Int32.toInt_inj, wr_toInt, wr_toInt, wr_id ha, wr_id hb]
theorem ir_0 : ir 0 := by unfold ir; decide
theorem x_z : (0 : Int32) = Int32.ofInt 0 := by decide +kernel
theorem x_eq0 {a : Int} (ha : ir a) : Int32.ofInt a = 0 ↔ a = 0 := by rw [x_z, x_eq ha ir_0]
theorem x_lt0 {a : Int} (ha : ir a) : Int32.ofInt a < 0 ↔ a < 0 := by rw [x_z, x_lt ha ir_0]
theorem x_0lt {a : Int} (ha : ir a) : 0 < Int32.ofInt a ↔ 0 < a := by rw [x_z, x_lt ir_0 ha]
theorem x_le0 {a : Int} (ha : ir a) : Int32.ofInt a ≤ 0 ↔ a ≤ 0 := by rw [x_z, x_le ha ir_0]
theorem x_0le {a : Int} (ha : ir a) : 0 ≤ Int32.ofInt a ↔ 0 ≤ a := by rw [x_z, x_le ir_0 ha]
theorem x_cl {j : Int} (h0 : 0 ≤ j) (h1 : j < 2147483648) : (Int32.ofInt j).toNatClampNeg = j.toNat := by
  show (Int32.ofInt j).toInt.toNat = j.toNat
  rw [wr_toInt, wr_id ⟨by omega, h1⟩]
theorem x_n0 {j : Int} (h0 : 0 ≤ j) (h1 : j < 2147483648) : ¬ Int32.ofInt j < 0 := by
  rw [x_z, x_lt ⟨by omega, h1⟩ ir_0]
  omega
theorem x_in {j : Int} {n : Nat} (h0 : 0 ≤ j) (h1 : j.toNat < n) (hn : n < 2147483648) : vp_in (Int32.ofInt j) n := by
  intro q
  rcases q with q | q
  · exact x_n0 h0 (by omega) q
  · rw [x_cl h0 (by omega)] at q
    omega
/-! locals -/
def x_ll (b : Nat) (L : List (Option xV)) : List (Nat × Value) := (List.range L.length).filterMap (fun i => (L.getD i none).map (fun v => (i, x_v b v)))
theorem x_ll_mem {b : Nat} {L : List (Option xV)} {q : Nat × Value} : q ∈ x_ll b L ↔ ∃ v, L[q.1]? = some (some v) ∧ q.2 = x_v b v := by
  unfold x_ll
  rw [List.mem_filterMap]
  constructor
  · rintro ⟨i, hi, e⟩
    rw [List.mem_range] at hi
    rw [List.getD_eq_getElem?_getD] at e
    cases hL : L[i]? with
    | none => rw [hL] at e; simp at e
    | some o =>
      rw [hL] at e
      cases o with
      | none => simp at e
      | some v =>
        simp at e
        subst e
        exact ⟨v, hL, rfl⟩
  · rintro ⟨v, h1, h2⟩
    refine ⟨q.1, List.mem_range.mpr (List.getElem?_eq_some_iff.mp h1).1, ?_⟩
    rw [List.getD_eq_getElem?_getD, h1]
    simp
    rw [← h2]
theorem x_cat (b : Nat) (v : xV) : (x_v b v).category = 1 := by
  cases v with
  | inl i => rfl
  | inr r => cases r <;> rfl
abbrev x_L (b : Nat) (ls : Array Slot) (n : Nat) (L : List (Option xV)) : Prop := lv_has ls n (x_ll b L)
theorem x_L_get {b : Nat} {ls : Array Slot} {n : Nat} {L : List (Option xV)} {i : Nat} {v : xV} (h : x_L b ls n L) (hi : L[i]? = some (some v)) : ls[i]? = some (.val (x_v b v)) :=
  h.2.2 (i, x_v b v) (x_ll_mem.mpr ⟨v, hi, rfl⟩)
theorem x_L_set {b : Nat} {ls : Array Slot} {n : Nat} {L : List (Option xV)} {i : Nat} {v : xV} (h : lv_has ls n ((i, x_v b v) :: (x_ll b L).filter (fun q => !(q.1 == i) && !(q.1 + 1 == i && q.2.category == 2)))) : x_L b ls n (L.set i (some v)) := by
  refine ⟨h.1, h.2.1, fun q hq => h.2.2 q ?_⟩
  obtain ⟨u, h1, h2⟩ := x_ll_mem.mp hq
  obtain ⟨j, w0⟩ := q
  dsimp only at h1 h2
  subst h2
  by_cases hij : j = i
  · subst hij
    have hl : j < L.length := by
      have := (List.getElem?_eq_some_iff.mp h1).1
      simpa using this
    rw [List.getElem?_set_self hl] at h1
    cases h1
    exact List.mem_cons_self
  · rw [List.getElem?_set_ne (Ne.symm hij)] at h1
    refine List.mem_cons_of_mem _ (List.mem_filter.mpr ⟨x_ll_mem.mpr ⟨u, h1, rfl⟩, ?_⟩)
    simp [hij, x_cat]
/-! the judgements -/
def x_rm (M : xM) (mc ms : Nat) : Room := { frames := M.2.2.2.2.1, cells := mc, slots := ms, locals := M.2.2.2.2.2 }
def x_wM (M : xM) : List Cond := Cond.code M.1 M.2.1 M.2.2.1 M.2.2.2.1 :: x_ws
def x_tys (d : xD) : List (ClassId × FieldType) := [(d.2.2 0, .int), (d.2.2 1, .object "SequentMachine$Row"), (d.2.2 2, .object "SequentMachine$Item")]
def x_K (d : xD) (U : State) : Prop := va_K d.2.1 cl_s (x_tys d) U ∧ (∀ w ∈ x_N, va_Nw w U) ∧ va_AO "SequentMachine$Row" U ∧ va_AO "SequentMachine$Item" U ∧ va_Nw (.castable "[I" "java/lang/Cloneable") U
def x_Cx (M : xM) (p : Program) (s : State) (m : MethodId) (args : Array Value) (meth : Method) (c : Code) (d : xD) : Prop :=
  p.tables.exec = Jvm.exec ∧ c.code = M.2.1 ∧ c.maxLocals = M.2.2.1 ∧ s.vm.findClass M.1.cls = some m.cls ∧ (∀ w ∈ x_wM M, w.before args s = true) ∧ meth.sig.returnType = M.2.2.2.1 ∧ meth.locks = false ∧ meth.name = M.1.name ∧ x_K d s
def x_Q (d : xD) (r : Option xV) (hf : xH) : Array Value → State → Outcome → State → Prop := fun _ _ o t => o = .returned (r.map (x_v d.1)) ∧ x_R d hf t.heap
def x_B (M : xM) (pc : Nat) (L : List (Option xV)) (st : List xV) (h : xH) (r : Option xV) (hf : xH) : Prop :=
  (h.1.length ≤ hf.1.length ∧ h.2 ≤ hf.2) ∧ ∀ (p : Program) (l : Launch) (e : Env) (s : State) (m : MethodId) (args : Array Value) (below : List Frame) (meth : Method) (c : Code) (H : Heap) (locs : List Loc) (ls : Array Slot) (d : xD) (k0 n0 : Nat),
    x_Cx M p s m args meth c d → x_R d h H → x_L d.1 ls M.2.2.1 L → k0 ≤ h.1.length → n0 ≤ h.2 → (∀ q ∈ locs, d.1 ≤ q.base) →
    W p l e (x_rm M (hf.1.length - k0) (hf.2 - n0)) s m args below meth c H locs (h.1.length - k0) (h.2 - n0) (MQ below (x_Q d r hf) args s (hf.1.length - k0) (hf.2 - n0) (fun q => d.1 ≤ q)) (F0 m pc ls (st.map (x_v d.1)))
def x_S (M : xM) (pc : Nat) (L : List (Option xV)) (st : List xV) (h : xH) (pc' : Nat) (L' : List (Option xV)) (st' : List xV) (h' : xH) : Prop := ∀ (r : Option xV) (hf : xH), x_B M pc' L' st' h' r hf → x_B M pc L st h r hf
def x_X (M : xM) (pc : Nat) (L : List (Option xV)) (st : List xV) (h : xH) (Q : Option xV → xH → Prop) : Prop := ∃ r hf, x_B M pc L st h r hf ∧ Q r hf
def x_M (M : xM) (as : List xV) (h : xH) (r : Option xV) (hf : xH) : Prop := (h.1.length ≤ hf.1.length ∧ h.2 ≤ hf.2) ∧ ∀ (l : Launch) (d : xD), Met l M.1 (x_wM M) (x_rm M (hf.1.length - h.1.length) (hf.2 - h.2)) (va_Pc (as.map (x_v d.1)) (fun U => x_R d h U.heap ∧ x_K d U)) (x_Q d r hf) (hf.1.length - h.1.length) (hf.2 - h.2) (fun q => d.1 ≤ q)
theorem xx {M : xM} {pc : Nat} {L : List (Option xV)} {st : List xV} {h : xH} {pc' : Nat} {L' : List (Option xV)} {st' : List xV} {h' : xH} {Q : Option xV → xH → Prop} (hs : x_S M pc L st h pc' L' st' h') (hx : x_X M pc' L' st' h' Q) : x_X M pc L st h Q := by
  obtain ⟨r, hf, hb, hq⟩ := hx
  exact ⟨r, hf, hs r hf hb, hq⟩

section XS
variable {M : xM} {pc : Nat} {L : List (Option xV)} {st : List xV} {h : xH}
theorem xs_iconst {n : Int} (hd : decode M.2.1 pc = .ok (.iconst n, 1)) : x_S M pc L st h (pc + 1) L (.inl n :: st) h := by
  intro r hf hb
  obtain ⟨hle, hw⟩ := hb
  refine ⟨hle, fun p l e s m args below meth c H locs ls d k0 n0 hC hR hL h1 h2 hq => ?_⟩
  exact lv_iconst hC.1 hC.2.1 hd rfl (hw p l e s m args below meth c H locs ls d k0 n0 hC hR hL h1 h2 hq)
theorem xs_bipush {n : Int} (hd : decode M.2.1 pc = .ok (.bipush n, 2)) (hn : -128 ≤ n ∧ n < 128) : x_S M pc L st h (pc + 2) L (.inl n :: st) h := by
  intro r hf hb
  obtain ⟨hle, hw⟩ := hb
  refine ⟨hle, fun p l e s m args below meth c H locs ls d k0 n0 hC hR hL h1 h2 hq => ?_⟩
  have hv : (Int8.ofInt n).toInt32 = Int32.ofInt n := Int32.toInt_inj.mp (by rw [Int8.toInt_toInt32, Int8.toInt_ofInt_of_le (by omega) (by omega), Int32.toInt_ofInt_of_le (by omega) (by omega)])
  exact lv_bipush hC.1 hC.2.1 hd hv (hw p l e s m args below meth c H locs ls d k0 n0 hC hR hL h1 h2 hq)
theorem xs_sipush {n : Int} (hd : decode M.2.1 pc = .ok (.sipush n, 3)) (hn : -32768 ≤ n ∧ n < 32768) : x_S M pc L st h (pc + 3) L (.inl n :: st) h := by
  intro r hf hb
  obtain ⟨hle, hw⟩ := hb
  refine ⟨hle, fun p l e s m args below meth c H locs ls d k0 n0 hC hR hL h1 h2 hq => ?_⟩
  have hv : (Int16.ofInt n).toInt32 = Int32.ofInt n := Int32.toInt_inj.mp (by rw [Int16.toInt_toInt32, Int16.toInt_ofInt_of_le (by omega) (by omega), Int32.toInt_ofInt_of_le (by omega) (by omega)])
  exact lv_sipush hC.1 hC.2.1 hd hv (hw p l e s m args below meth c H locs ls d k0 n0 hC hR hL h1 h2 hq)
theorem xs_null (hd : decode M.2.1 pc = .ok (.aconst_null, 1)) : x_S M pc L st h (pc + 1) L (.inr none :: st) h := by
  intro r hf hb
  obtain ⟨hle, hw⟩ := hb
  refine ⟨hle, fun p l e s m args below meth c H locs ls d k0 n0 hC hR hL h1 h2 hq => ?_⟩
  exact lv_null hC.1 hC.2.1 hd (hw p l e s m args below meth c H locs ls d k0 n0 hC hR hL h1 h2 hq)
theorem xs_iload_n {k : Fin 4} {x : Int} (hd : decode M.2.1 pc = .ok (.iload_n k, 1)) (hl : L[(k : Nat)]? = some (some (.inl x))) : x_S M pc L st h (pc + 1) L (.inl x :: st) h := by
  intro r hf hb
  obtain ⟨hle, hw⟩ := hb
  refine ⟨hle, fun p l e s m args below meth c H locs ls d k0 n0 hC hR hL h1 h2 hq => ?_⟩
  exact lv_iload_n hC.1 hC.2.1 hd rfl (x_L_get hL hl) (hw p l e s m args below meth c H locs ls d k0 n0 hC hR hL h1 h2 hq)
theorem xs_iload {k : Nat} {x : Int} (hd : decode M.2.1 pc = .ok (.iload k, 2)) (hl : L[k]? = some (some (.inl x))) : x_S M pc L st h (pc + 2) L (.inl x :: st) h := by
  intro r hf hb
  obtain ⟨hle, hw⟩ := hb
  refine ⟨hle, fun p l e s m args below meth c H locs ls d k0 n0 hC hR hL h1 h2 hq => ?_⟩
  exact lv_iload hC.1 hC.2.1 hd (x_L_get hL hl) (hw p l e s m args below meth c H locs ls d k0 n0 hC hR hL h1 h2 hq)
theorem xs_aload_n {k : Fin 4} {x : Option Nat} (hd : decode M.2.1 pc = .ok (.aload_n k, 1)) (hl : L[(k : Nat)]? = some (some (.inr x))) : x_S M pc L st h (pc + 1) L (.inr x :: st) h := by
  intro r hf hb
  obtain ⟨hle, hw⟩ := hb
  refine ⟨hle, fun p l e s m args below meth c H locs ls d k0 n0 hC hR hL h1 h2 hq => ?_⟩
  cases x with
  | none => exact lv_aload_nN hC.1 hC.2.1 hd rfl (x_L_get hL hl) (hw p l e s m args below meth c H locs ls d k0 n0 hC hR hL h1 h2 hq)
  | some x => exact lv_aload_n hC.1 hC.2.1 hd rfl (x_L_get hL hl) (hw p l e s m args below meth c H locs ls d k0 n0 hC hR hL h1 h2 hq)
theorem xs_aload {k : Nat} {x : Option Nat} (hd : decode M.2.1 pc = .ok (.aload k, 2)) (hl : L[k]? = some (some (.inr x))) : x_S M pc L st h (pc + 2) L (.inr x :: st) h := by
  intro r hf hb
  obtain ⟨hle, hw⟩ := hb
  refine ⟨hle, fun p l e s m args below meth c H locs ls d k0 n0 hC hR hL h1 h2 hq => ?_⟩
  cases x with
  | none => exact lv_aloadN hC.1 hC.2.1 hd (x_L_get hL hl) (hw p l e s m args below meth c H locs ls d k0 n0 hC hR hL h1 h2 hq)
  | some x => exact lv_aload hC.1 hC.2.1 hd (x_L_get hL hl) (hw p l e s m args below meth c H locs ls d k0 n0 hC hR hL h1 h2 hq)
theorem xs_istore_n {k : Fin 4} {x : Int} (hd : decode M.2.1 pc = .ok (.istore_n k, 1)) (hn : (k : Nat) < M.2.2.1) : x_S M pc L (.inl x :: st) h (pc + 1) (L.set k (some (.inl x))) st h := by
  intro r hf hb
  obtain ⟨hle, hw⟩ := hb
  refine ⟨hle, fun p l e s m args below meth c H locs ls d k0 n0 hC hR hL h1 h2 hq => ?_⟩
  exact lv_istore_n hC.1 hC.2.1 hd rfl hL hn rfl (fun ls' hl' => hw p l e s m args below meth c H locs ls' d k0 n0 hC hR (x_L_set hl') h1 h2 hq)
theorem xs_istore {k : Nat} {x : Int} (hd : decode M.2.1 pc = .ok (.istore k, 2)) (hn : k < M.2.2.1) : x_S M pc L (.inl x :: st) h (pc + 2) (L.set k (some (.inl x))) st h := by
  intro r hf hb
  obtain ⟨hle, hw⟩ := hb
  refine ⟨hle, fun p l e s m args below meth c H locs ls d k0 n0 hC hR hL h1 h2 hq => ?_⟩
  exact lv_istore hC.1 hC.2.1 hd hL hn rfl (fun ls' hl' => hw p l e s m args below meth c H locs ls' d k0 n0 hC hR (x_L_set hl') h1 h2 hq)
theorem xs_astore_n {k : Fin 4} {x : Option Nat} (hd : decode M.2.1 pc = .ok (.astore_n k, 1)) (hn : (k : Nat) < M.2.2.1) : x_S M pc L (.inr x :: st) h (pc + 1) (L.set k (some (.inr x))) st h := by
  intro r hf hb
  obtain ⟨hle, hw⟩ := hb
  refine ⟨hle, fun p l e s m args below meth c H locs ls d k0 n0 hC hR hL h1 h2 hq => ?_⟩
  cases x with
  | none => exact lv_astore_nN hC.1 hC.2.1 hd rfl hL hn rfl (fun ls' hl' => hw p l e s m args below meth c H locs ls' d k0 n0 hC hR (x_L_set hl') h1 h2 hq)
  | some x => exact lv_astore_n hC.1 hC.2.1 hd rfl hL hn rfl (fun ls' hl' => hw p l e s m args below meth c H locs ls' d k0 n0 hC hR (x_L_set hl') h1 h2 hq)
theorem xs_astore {k : Nat} {x : Option Nat} (hd : decode M.2.1 pc = .ok (.astore k, 2)) (hn : k < M.2.2.1) : x_S M pc L (.inr x :: st) h (pc + 2) (L.set k (some (.inr x))) st h := by
  intro r hf hb
  obtain ⟨hle, hw⟩ := hb
  refine ⟨hle, fun p l e s m args below meth c H locs ls d k0 n0 hC hR hL h1 h2 hq => ?_⟩
  cases x with
  | none => exact lv_astoreN hC.1 hC.2.1 hd hL hn rfl (fun ls' hl' => hw p l e s m args below meth c H locs ls' d k0 n0 hC hR (x_L_set hl') h1 h2 hq)
  | some x => exact lv_astore hC.1 hC.2.1 hd hL hn rfl (fun ls' hl' => hw p l e s m args below meth c H locs ls' d k0 n0 hC hR (x_L_set hl') h1 h2 hq)
theorem xs_iinc {k : Nat} {x n : Int} (hd : decode M.2.1 pc = .ok (.iinc k n, 3)) (hl : L[k]? = some (some (.inl x))) (hn : k < M.2.2.1) : x_S M pc L st h (pc + 3) (L.set k (some (.inl (x + n)))) st h := by
  intro r hf hb
  obtain ⟨hle, hw⟩ := hb
  refine ⟨hle, fun p l e s m args below meth c H locs ls d k0 n0 hC hR hL h1 h2 hq => ?_⟩
  obtain ⟨i, hi⟩ := List.getElem?_of_mem (x_ll_mem (b := d.1) (q := (k, x_v d.1 (.inl x))).mpr ⟨_, hl, rfl⟩)
  exact lv_iinc hC.1 hC.2.1 hd hL hi (Int32.ofInt_add x n).symm hn rfl (fun ls' hl' => hw p l e s m args below meth c H locs ls' d k0 n0 hC hR (x_L_set hl') h1 h2 hq)
theorem xs_iadd {x y : Int} (hd : decode M.2.1 pc = .ok (.iadd, 1)) : x_S M pc L (.inl y :: .inl x :: st) h (pc + 1) L (.inl (x + y) :: st) h := by
  intro r hf hb
  obtain ⟨hle, hw⟩ := hb
  refine ⟨hle, fun p l e s m args below meth c H locs ls d k0 n0 hC hR hL h1 h2 hq => ?_⟩
  refine lv_iadd hC.1 hC.2.1 hd ?_
  rw [← Int32.ofInt_add]
  exact hw p l e s m args below meth c H locs ls d k0 n0 hC hR hL h1 h2 hq
theorem xs_isub {x y : Int} (hd : decode M.2.1 pc = .ok (.isub, 1)) : x_S M pc L (.inl y :: .inl x :: st) h (pc + 1) L (.inl (x - y) :: st) h := by
  intro r hf hb
  obtain ⟨hle, hw⟩ := hb
  refine ⟨hle, fun p l e s m args below meth c H locs ls d k0 n0 hC hR hL h1 h2 hq => ?_⟩
  refine lv_isub hC.1 hC.2.1 hd ?_
  rw [← Int32.ofInt_sub]
  exact hw p l e s m args below meth c H locs ls d k0 n0 hC hR hL h1 h2 hq
theorem xs_imul {x y : Int} (hd : decode M.2.1 pc = .ok (.imul, 1)) : x_S M pc L (.inl y :: .inl x :: st) h (pc + 1) L (.inl (x * y) :: st) h := by
  intro r hf hb
  obtain ⟨hle, hw⟩ := hb
  refine ⟨hle, fun p l e s m args below meth c H locs ls d k0 n0 hC hR hL h1 h2 hq => ?_⟩
  refine lv_imul hC.1 hC.2.1 hd ?_
  rw [← Int32.ofInt_mul]
  exact hw p l e s m args below meth c H locs ls d k0 n0 hC hR hL h1 h2 hq
theorem xs_dup {v : xV} (hd : decode M.2.1 pc = .ok (.dup, 1)) : x_S M pc L (v :: st) h (pc + 1) L (v :: v :: st) h := by
  intro r hf hb
  obtain ⟨hle, hw⟩ := hb
  refine ⟨hle, fun p l e s m args below meth c H locs ls d k0 n0 hC hR hL h1 h2 hq => ?_⟩
  exact lv_dup hC.1 hC.2.1 hd (x_cat _ _) (hw p l e s m args below meth c H locs ls d k0 n0 hC hR hL h1 h2 hq)
theorem xs_pop {v : xV} (hd : decode M.2.1 pc = .ok (.pop, 1)) : x_S M pc L (v :: st) h (pc + 1) L st h := by
  intro r hf hb
  obtain ⟨hle, hw⟩ := hb
  refine ⟨hle, fun p l e s m args below meth c H locs ls d k0 n0 hC hR hL h1 h2 hq => ?_⟩
  exact lv_pop hC.1 hC.2.1 hd (x_cat _ _) (hw p l e s m args below meth c H locs ls d k0 n0 hC hR hL h1 h2 hq)
theorem xs_dup_x1 {v u : xV} (hd : decode M.2.1 pc = .ok (.dup_x1, 1)) : x_S M pc L (v :: u :: st) h (pc + 1) L (v :: u :: v :: st) h := by
  intro r hf hb
  obtain ⟨hle, hw⟩ := hb
  refine ⟨hle, fun p l e s m args below meth c H locs ls d k0 n0 hC hR hL h1 h2 hq => ?_⟩
  exact lv_dup_x1 hC.1 hC.2.1 hd (x_cat _ _) (x_cat _ _) (hw p l e s m args below meth c H locs ls d k0 n0 hC hR hL h1 h2 hq)
theorem xs_dup_x2 {v u t : xV} (hd : decode M.2.1 pc = .ok (.dup_x2, 1)) : x_S M pc L (v :: u :: t :: st) h (pc + 1) L (v :: u :: t :: v :: st) h := by
  intro r hf hb
  obtain ⟨hle, hw⟩ := hb
  refine ⟨hle, fun p l e s m args below meth c H locs ls d k0 n0 hC hR hL h1 h2 hq => ?_⟩
  exact lv_dup_x2 hC.1 hC.2.1 hd (x_cat _ _) (x_cat _ _) (x_cat _ _) (hw p l e s m args below meth c H locs ls d k0 n0 hC hR hL h1 h2 hq)
theorem xs_dup2 {v u : xV} (hd : decode M.2.1 pc = .ok (.dup2, 1)) : x_S M pc L (v :: u :: st) h (pc + 1) L (v :: u :: v :: u :: st) h := by
  intro r hf hb
  obtain ⟨hle, hw⟩ := hb
  refine ⟨hle, fun p l e s m args below meth c H locs ls d k0 n0 hC hR hL h1 h2 hq => ?_⟩
  exact lv_dup2_11 hC.1 hC.2.1 hd (x_cat _ _) (x_cat _ _) (hw p l e s m args below meth c H locs ls d k0 n0 hC hR hL h1 h2 hq)
theorem xs_goto {off : Int} {tgt : Nat} (hd : decode M.2.1 pc = .ok (.goto off, 3)) (ht : (pc : Int) + off = (tgt : Int)) : x_S M pc L st h tgt L st h := by
  intro r hf hb
  obtain ⟨hle, hw⟩ := hb
  refine ⟨hle, fun p l e s m args below meth c H locs ls d k0 n0 hC hR hL h1 h2 hq => ?_⟩
  exact lv_goto hC.1 hC.2.1 hd ht (hw p l e s m args below meth c H locs ls d k0 n0 hC hR hL h1 h2 hq)
theorem xs_norm {x : Int} : x_S M pc L (.inl x :: st) h pc L (.inl (wr x) :: st) h := by
  intro r hf hb
  obtain ⟨hle, hw⟩ := hb
  refine ⟨hle, fun p l e s m args below meth c H locs ls d k0 n0 hC hR hL h1 h2 hq => ?_⟩
  have k := hw p l e s m args below meth c H locs ls d k0 n0 hC hR hL h1 h2 hq
  simp only [List.map_cons, x_v, x_wr] at k ⊢
  exact k
theorem xs_icmp_eq_t {x y : Int} {off : Int} {tgt : Nat} (hd : decode M.2.1 pc = .ok (.if_icmp .eq off, 3)) (ht : (pc : Int) + off = (tgt : Int)) (hx : ir x) (hy : ir y) (hc : x = y) : x_S M pc L (.inl y :: .inl x :: st) h tgt L st h := by
  intro r hf hb
  obtain ⟨hle, hw⟩ := hb
  refine ⟨hle, fun p l e s m args below meth c H locs ls d k0 n0 hC hR hL h1 h2 hq => ?_⟩
  exact lv_icmp_eq hC.1 hC.2.1 hd ht (fun _ => hw p l e s m args below meth c H locs ls d k0 n0 hC hR hL h1 h2 hq) (fun q => absurd ((x_eq hx hy).mpr hc) q)
theorem xs_icmp_eq_f {x y : Int} {off : Int} {tgt : Nat} (hd : decode M.2.1 pc = .ok (.if_icmp .eq off, 3)) (ht : (pc : Int) + off = (tgt : Int)) (hx : ir x) (hy : ir y) (hc : ¬ x = y) : x_S M pc L (.inl y :: .inl x :: st) h (pc + 3) L st h := by
  intro r hf hb
  obtain ⟨hle, hw⟩ := hb
  refine ⟨hle, fun p l e s m args below meth c H locs ls d k0 n0 hC hR hL h1 h2 hq => ?_⟩
  exact lv_icmp_eq hC.1 hC.2.1 hd ht (fun q => absurd ((x_eq hx hy).mp q) hc) (fun _ => hw p l e s m args below meth c H locs ls d k0 n0 hC hR hL h1 h2 hq)
theorem xx_icmp_eq {x y : Int} {off : Int} {tgt : Nat} (hd : decode M.2.1 pc = .ok (.if_icmp .eq off, 3)) (ht : (pc : Int) + off = (tgt : Int)) (hx : ir x) (hy : ir y) {Q : Option xV → xH → Prop} (kt : x = y → x_X M tgt L st h Q) (kf : ¬ x = y → x_X M (pc + 3) L st h Q) : x_X M pc L (.inl y :: .inl x :: st) h Q := by
  by_cases hc : x = y
  · exact xx (xs_icmp_eq_t hd ht hx hy hc) (kt hc)
  · exact xx (xs_icmp_eq_f hd ht hx hy hc) (kf hc)
theorem xs_if_eq_t {x : Int} {off : Int} {tgt : Nat} (hd : decode M.2.1 pc = .ok (.ifCond .eq off, 3)) (ht : (pc : Int) + off = (tgt : Int)) (hx : ir x) (hc : x = 0) : x_S M pc L (.inl x :: st) h tgt L st h := by
  intro r hf hb
  obtain ⟨hle, hw⟩ := hb
  refine ⟨hle, fun p l e s m args below meth c H locs ls d k0 n0 hC hR hL h1 h2 hq => ?_⟩
  exact lv_if_eq hC.1 hC.2.1 hd ht (fun _ => hw p l e s m args below meth c H locs ls d k0 n0 hC hR hL h1 h2 hq) (fun q => absurd ((x_eq0 hx).mpr hc) q)
theorem xs_if_eq_f {x : Int} {off : Int} {tgt : Nat} (hd : decode M.2.1 pc = .ok (.ifCond .eq off, 3)) (ht : (pc : Int) + off = (tgt : Int)) (hx : ir x) (hc : ¬ x = 0) : x_S M pc L (.inl x :: st) h (pc + 3) L st h := by
  intro r hf hb
  obtain ⟨hle, hw⟩ := hb
  refine ⟨hle, fun p l e s m args below meth c H locs ls d k0 n0 hC hR hL h1 h2 hq => ?_⟩
  exact lv_if_eq hC.1 hC.2.1 hd ht (fun q => absurd ((x_eq0 hx).mp q) hc) (fun _ => hw p l e s m args below meth c H locs ls d k0 n0 hC hR hL h1 h2 hq)
theorem xx_if_eq {x : Int} {off : Int} {tgt : Nat} (hd : decode M.2.1 pc = .ok (.ifCond .eq off, 3)) (ht : (pc : Int) + off = (tgt : Int)) (hx : ir x) {Q : Option xV → xH → Prop} (kt : x = 0 → x_X M tgt L st h Q) (kf : ¬ x = 0 → x_X M (pc + 3) L st h Q) : x_X M pc L (.inl x :: st) h Q := by
  by_cases hc : x = 0
  · exact xx (xs_if_eq_t hd ht hx hc) (kt hc)
  · exact xx (xs_if_eq_f hd ht hx hc) (kf hc)
theorem xs_icmp_ne_t {x y : Int} {off : Int} {tgt : Nat} (hd : decode M.2.1 pc = .ok (.if_icmp .ne off, 3)) (ht : (pc : Int) + off = (tgt : Int)) (hx : ir x) (hy : ir y) (hc : ¬ x = y) : x_S M pc L (.inl y :: .inl x :: st) h tgt L st h := by
  intro r hf hb
  obtain ⟨hle, hw⟩ := hb
  refine ⟨hle, fun p l e s m args below meth c H locs ls d k0 n0 hC hR hL h1 h2 hq => ?_⟩
  exact lv_icmp_ne hC.1 hC.2.1 hd ht (fun _ => hw p l e s m args below meth c H locs ls d k0 n0 hC hR hL h1 h2 hq) (fun q => absurd ((x_eq hx hy).mp q) hc)
theorem xs_icmp_ne_f {x y : Int} {off : Int} {tgt : Nat} (hd : decode M.2.1 pc = .ok (.if_icmp .ne off, 3)) (ht : (pc : Int) + off = (tgt : Int)) (hx : ir x) (hy : ir y) (hc : x = y) : x_S M pc L (.inl y :: .inl x :: st) h (pc + 3) L st h := by
  intro r hf hb
  obtain ⟨hle, hw⟩ := hb
  refine ⟨hle, fun p l e s m args below meth c H locs ls d k0 n0 hC hR hL h1 h2 hq => ?_⟩
  exact lv_icmp_ne hC.1 hC.2.1 hd ht (fun q => absurd ((x_eq hx hy).mpr hc) q) (fun _ => hw p l e s m args below meth c H locs ls d k0 n0 hC hR hL h1 h2 hq)
theorem xx_icmp_ne {x y : Int} {off : Int} {tgt : Nat} (hd : decode M.2.1 pc = .ok (.if_icmp .ne off, 3)) (ht : (pc : Int) + off = (tgt : Int)) (hx : ir x) (hy : ir y) {Q : Option xV → xH → Prop} (kt : ¬ x = y → x_X M tgt L st h Q) (kf : x = y → x_X M (pc + 3) L st h Q) : x_X M pc L (.inl y :: .inl x :: st) h Q := by
  by_cases hc : x = y
  · exact xx (xs_icmp_ne_f hd ht hx hy hc) (kf hc)
  · exact xx (xs_icmp_ne_t hd ht hx hy hc) (kt hc)
theorem xs_if_ne_t {x : Int} {off : Int} {tgt : Nat} (hd : decode M.2.1 pc = .ok (.ifCond .ne off, 3)) (ht : (pc : Int) + off = (tgt : Int)) (hx : ir x) (hc : ¬ x = 0) : x_S M pc L (.inl x :: st) h tgt L st h := by
  intro r hf hb
  obtain ⟨hle, hw⟩ := hb
  refine ⟨hle, fun p l e s m args below meth c H locs ls d k0 n0 hC hR hL h1 h2 hq => ?_⟩
  exact lv_if_ne hC.1 hC.2.1 hd ht (fun _ => hw p l e s m args below meth c H locs ls d k0 n0 hC hR hL h1 h2 hq) (fun q => absurd ((x_eq0 hx).mp q) hc)
theorem xs_if_ne_f {x : Int} {off : Int} {tgt : Nat} (hd : decode M.2.1 pc = .ok (.ifCond .ne off, 3)) (ht : (pc : Int) + off = (tgt : Int)) (hx : ir x) (hc : x = 0) : x_S M pc L (.inl x :: st) h (pc + 3) L st h := by
  intro r hf hb
  obtain ⟨hle, hw⟩ := hb
  refine ⟨hle, fun p l e s m args below meth c H locs ls d k0 n0 hC hR hL h1 h2 hq => ?_⟩
  exact lv_if_ne hC.1 hC.2.1 hd ht (fun q => absurd ((x_eq0 hx).mpr hc) q) (fun _ => hw p l e s m args below meth c H locs ls d k0 n0 hC hR hL h1 h2 hq)
theorem xx_if_ne {x : Int} {off : Int} {tgt : Nat} (hd : decode M.2.1 pc = .ok (.ifCond .ne off, 3)) (ht : (pc : Int) + off = (tgt : Int)) (hx : ir x) {Q : Option xV → xH → Prop} (kt : ¬ x = 0 → x_X M tgt L st h Q) (kf : x = 0 → x_X M (pc + 3) L st h Q) : x_X M pc L (.inl x :: st) h Q := by
  by_cases hc : x = 0
  · exact xx (xs_if_ne_f hd ht hx hc) (kf hc)
  · exact xx (xs_if_ne_t hd ht hx hc) (kt hc)
theorem xs_icmp_lt_t {x y : Int} {off : Int} {tgt : Nat} (hd : decode M.2.1 pc = .ok (.if_icmp .lt off, 3)) (ht : (pc : Int) + off = (tgt : Int)) (hx : ir x) (hy : ir y) (hc : x < y) : x_S M pc L (.inl y :: .inl x :: st) h tgt L st h := by
  intro r hf hb
  obtain ⟨hle, hw⟩ := hb
  refine ⟨hle, fun p l e s m args below meth c H locs ls d k0 n0 hC hR hL h1 h2 hq => ?_⟩
  exact lv_icmp_lt hC.1 hC.2.1 hd ht (fun _ => hw p l e s m args below meth c H locs ls d k0 n0 hC hR hL h1 h2 hq) (fun q => absurd ((x_lt hx hy).mpr hc) q)
theorem xs_icmp_lt_f {x y : Int} {off : Int} {tgt : Nat} (hd : decode M.2.1 pc = .ok (.if_icmp .lt off, 3)) (ht : (pc : Int) + off = (tgt : Int)) (hx : ir x) (hy : ir y) (hc : ¬ x < y) : x_S M pc L (.inl y :: .inl x :: st) h (pc + 3) L st h := by
  intro r hf hb
  obtain ⟨hle, hw⟩ := hb
  refine ⟨hle, fun p l e s m args below meth c H locs ls d k0 n0 hC hR hL h1 h2 hq => ?_⟩
  exact lv_icmp_lt hC.1 hC.2.1 hd ht (fun q => absurd ((x_lt hx hy).mp q) hc) (fun _ => hw p l e s m args below meth c H locs ls d k0 n0 hC hR hL h1 h2 hq)
theorem xx_icmp_lt {x y : Int} {off : Int} {tgt : Nat} (hd : decode M.2.1 pc = .ok (.if_icmp .lt off, 3)) (ht : (pc : Int) + off = (tgt : Int)) (hx : ir x) (hy : ir y) {Q : Option xV → xH → Prop} (kt : x < y → x_X M tgt L st h Q) (kf : ¬ x < y → x_X M (pc + 3) L st h Q) : x_X M pc L (.inl y :: .inl x :: st) h Q := by
  by_cases hc : x < y
  · exact xx (xs_icmp_lt_t hd ht hx hy hc) (kt hc)
  · exact xx (xs_icmp_lt_f hd ht hx hy hc) (kf hc)
theorem xs_if_lt_t {x : Int} {off : Int} {tgt : Nat} (hd : decode M.2.1 pc = .ok (.ifCond .lt off, 3)) (ht : (pc : Int) + off = (tgt : Int)) (hx : ir x) (hc : x < 0) : x_S M pc L (.inl x :: st) h tgt L st h := by
  intro r hf hb
  obtain ⟨hle, hw⟩ := hb
  refine ⟨hle, fun p l e s m args below meth c H locs ls d k0 n0 hC hR hL h1 h2 hq => ?_⟩
  exact lv_if_lt hC.1 hC.2.1 hd ht (fun _ => hw p l e s m args below meth c H locs ls d k0 n0 hC hR hL h1 h2 hq) (fun q => absurd ((x_lt0 hx).mpr hc) q)
theorem xs_if_lt_f {x : Int} {off : Int} {tgt : Nat} (hd : decode M.2.1 pc = .ok (.ifCond .lt off, 3)) (ht : (pc : Int) + off = (tgt : Int)) (hx : ir x) (hc : ¬ x < 0) : x_S M pc L (.inl x :: st) h (pc + 3) L st h := by
  intro r hf hb
  obtain ⟨hle, hw⟩ := hb
  refine ⟨hle, fun p l e s m args below meth c H locs ls d k0 n0 hC hR hL h1 h2 hq => ?_⟩
  exact lv_if_lt hC.1 hC.2.1 hd ht (fun q => absurd ((x_lt0 hx).mp q) hc) (fun _ => hw p l e s m args below meth c H locs ls d k0 n0 hC hR hL h1 h2 hq)
theorem xx_if_lt {x : Int} {off : Int} {tgt : Nat} (hd : decode M.2.1 pc = .ok (.ifCond .lt off, 3)) (ht : (pc : Int) + off = (tgt : Int)) (hx : ir x) {Q : Option xV → xH → Prop} (kt : x < 0 → x_X M tgt L st h Q) (kf : ¬ x < 0 → x_X M (pc + 3) L st h Q) : x_X M pc L (.inl x :: st) h Q := by
  by_cases hc : x < 0
  · exact xx (xs_if_lt_t hd ht hx hc) (kt hc)
  · exact xx (xs_if_lt_f hd ht hx hc) (kf hc)
theorem xs_icmp_ge_t {x y : Int} {off : Int} {tgt : Nat} (hd : decode M.2.1 pc = .ok (.if_icmp .ge off, 3)) (ht : (pc : Int) + off = (tgt : Int)) (hx : ir x) (hy : ir y) (hc : y ≤ x) : x_S M pc L (.inl y :: .inl x :: st) h tgt L st h := by
  intro r hf hb
  obtain ⟨hle, hw⟩ := hb
  refine ⟨hle, fun p l e s m args below meth c H locs ls d k0 n0 hC hR hL h1 h2 hq => ?_⟩
  exact lv_icmp_ge hC.1 hC.2.1 hd ht (fun _ => hw p l e s m args below meth c H locs ls d k0 n0 hC hR hL h1 h2 hq) (fun q => absurd ((x_le hy hx).mpr hc) q)
theorem xs_icmp_ge_f {x y : Int} {off : Int} {tgt : Nat} (hd : decode M.2.1 pc = .ok (.if_icmp .ge off, 3)) (ht : (pc : Int) + off = (tgt : Int)) (hx : ir x) (hy : ir y) (hc : ¬ y ≤ x) : x_S M pc L (.inl y :: .inl x :: st) h (pc + 3) L st h := by
  intro r hf hb
  obtain ⟨hle, hw⟩ := hb
  refine ⟨hle, fun p l e s m args below meth c H locs ls d k0 n0 hC hR hL h1 h2 hq => ?_⟩
  exact lv_icmp_ge hC.1 hC.2.1 hd ht (fun q => absurd ((x_le hy hx).mp q) hc) (fun _ => hw p l e s m args below meth c H locs ls d k0 n0 hC hR hL h1 h2 hq)
theorem xx_icmp_ge {x y : Int} {off : Int} {tgt : Nat} (hd : decode M.2.1 pc = .ok (.if_icmp .ge off, 3)) (ht : (pc : Int) + off = (tgt : Int)) (hx : ir x) (hy : ir y) {Q : Option xV → xH → Prop} (kt : y ≤ x → x_X M tgt L st h Q) (kf : ¬ y ≤ x → x_X M (pc + 3) L st h Q) : x_X M pc L (.inl y :: .inl x :: st) h Q := by
  by_cases hc : y ≤ x
  · exact xx (xs_icmp_ge_t hd ht hx hy hc) (kt hc)
  · exact xx (xs_icmp_ge_f hd ht hx hy hc) (kf hc)
theorem xs_if_ge_t {x : Int} {off : Int} {tgt : Nat} (hd : decode M.2.1 pc = .ok (.ifCond .ge off, 3)) (ht : (pc : Int) + off = (tgt : Int)) (hx : ir x) (hc : 0 ≤ x) : x_S M pc L (.inl x :: st) h tgt L st h := by
  intro r hf hb
  obtain ⟨hle, hw⟩ := hb
  refine ⟨hle, fun p l e s m args below meth c H locs ls d k0 n0 hC hR hL h1 h2 hq => ?_⟩
  exact lv_if_ge hC.1 hC.2.1 hd ht (fun _ => hw p l e s m args below meth c H locs ls d k0 n0 hC hR hL h1 h2 hq) (fun q => absurd ((x_0le hx).mpr hc) q)
theorem xs_if_ge_f {x : Int} {off : Int} {tgt : Nat} (hd : decode M.2.1 pc = .ok (.ifCond .ge off, 3)) (ht : (pc : Int) + off = (tgt : Int)) (hx : ir x) (hc : ¬ 0 ≤ x) : x_S M pc L (.inl x :: st) h (pc + 3) L st h := by
  intro r hf hb
  obtain ⟨hle, hw⟩ := hb
  refine ⟨hle, fun p l e s m args below meth c H locs ls d k0 n0 hC hR hL h1 h2 hq => ?_⟩
  exact lv_if_ge hC.1 hC.2.1 hd ht (fun q => absurd ((x_0le hx).mp q) hc) (fun _ => hw p l e s m args below meth c H locs ls d k0 n0 hC hR hL h1 h2 hq)
theorem xx_if_ge {x : Int} {off : Int} {tgt : Nat} (hd : decode M.2.1 pc = .ok (.ifCond .ge off, 3)) (ht : (pc : Int) + off = (tgt : Int)) (hx : ir x) {Q : Option xV → xH → Prop} (kt : 0 ≤ x → x_X M tgt L st h Q) (kf : ¬ 0 ≤ x → x_X M (pc + 3) L st h Q) : x_X M pc L (.inl x :: st) h Q := by
  by_cases hc : 0 ≤ x
  · exact xx (xs_if_ge_t hd ht hx hc) (kt hc)
  · exact xx (xs_if_ge_f hd ht hx hc) (kf hc)
theorem xs_icmp_gt_t {x y : Int} {off : Int} {tgt : Nat} (hd : decode M.2.1 pc = .ok (.if_icmp .gt off, 3)) (ht : (pc : Int) + off = (tgt : Int)) (hx : ir x) (hy : ir y) (hc : y < x) : x_S M pc L (.inl y :: .inl x :: st) h tgt L st h := by
  intro r hf hb
  obtain ⟨hle, hw⟩ := hb
  refine ⟨hle, fun p l e s m args below meth c H locs ls d k0 n0 hC hR hL h1 h2 hq => ?_⟩
  exact lv_icmp_gt hC.1 hC.2.1 hd ht (fun _ => hw p l e s m args below meth c H locs ls d k0 n0 hC hR hL h1 h2 hq) (fun q => absurd ((x_lt hy hx).mpr hc) q)
theorem xs_icmp_gt_f {x y : Int} {off : Int} {tgt : Nat} (hd : decode M.2.1 pc = .ok (.if_icmp .gt off, 3)) (ht : (pc : Int) + off = (tgt : Int)) (hx : ir x) (hy : ir y) (hc : ¬ y < x) : x_S M pc L (.inl y :: .inl x :: st) h (pc + 3) L st h := by
  intro r hf hb
  obtain ⟨hle, hw⟩ := hb
  refine ⟨hle, fun p l e s m args below meth c H locs ls d k0 n0 hC hR hL h1 h2 hq => ?_⟩
  exact lv_icmp_gt hC.1 hC.2.1 hd ht (fun q => absurd ((x_lt hy hx).mp q) hc) (fun _ => hw p l e s m args below meth c H locs ls d k0 n0 hC hR hL h1 h2 hq)
theorem xx_icmp_gt {x y : Int} {off : Int} {tgt : Nat} (hd : decode M.2.1 pc = .ok (.if_icmp .gt off, 3)) (ht : (pc : Int) + off = (tgt : Int)) (hx : ir x) (hy : ir y) {Q : Option xV → xH → Prop} (kt : y < x → x_X M tgt L st h Q) (kf : ¬ y < x → x_X M (pc + 3) L st h Q) : x_X M pc L (.inl y :: .inl x :: st) h Q := by
  by_cases hc : y < x
  · exact xx (xs_icmp_gt_t hd ht hx hy hc) (kt hc)
  · exact xx (xs_icmp_gt_f hd ht hx hy hc) (kf hc)
theorem xs_if_gt_t {x : Int} {off : Int} {tgt : Nat} (hd : decode M.2.1 pc = .ok (.ifCond .gt off, 3)) (ht : (pc : Int) + off = (tgt : Int)) (hx : ir x) (hc : 0 < x) : x_S M pc L (.inl x :: st) h tgt L st h := by
  intro r hf hb
  obtain ⟨hle, hw⟩ := hb
  refine ⟨hle, fun p l e s m args below meth c H locs ls d k0 n0 hC hR hL h1 h2 hq => ?_⟩
  exact lv_if_gt hC.1 hC.2.1 hd ht (fun _ => hw p l e s m args below meth c H locs ls d k0 n0 hC hR hL h1 h2 hq) (fun q => absurd ((x_0lt hx).mpr hc) q)
theorem xs_if_gt_f {x : Int} {off : Int} {tgt : Nat} (hd : decode M.2.1 pc = .ok (.ifCond .gt off, 3)) (ht : (pc : Int) + off = (tgt : Int)) (hx : ir x) (hc : ¬ 0 < x) : x_S M pc L (.inl x :: st) h (pc + 3) L st h := by
  intro r hf hb
  obtain ⟨hle, hw⟩ := hb
  refine ⟨hle, fun p l e s m args below meth c H locs ls d k0 n0 hC hR hL h1 h2 hq => ?_⟩
  exact lv_if_gt hC.1 hC.2.1 hd ht (fun q => absurd ((x_0lt hx).mp q) hc) (fun _ => hw p l e s m args below meth c H locs ls d k0 n0 hC hR hL h1 h2 hq)
theorem xx_if_gt {x : Int} {off : Int} {tgt : Nat} (hd : decode M.2.1 pc = .ok (.ifCond .gt off, 3)) (ht : (pc : Int) + off = (tgt : Int)) (hx : ir x) {Q : Option xV → xH → Prop} (kt : 0 < x → x_X M tgt L st h Q) (kf : ¬ 0 < x → x_X M (pc + 3) L st h Q) : x_X M pc L (.inl x :: st) h Q := by
  by_cases hc : 0 < x
  · exact xx (xs_if_gt_t hd ht hx hc) (kt hc)
  · exact xx (xs_if_gt_f hd ht hx hc) (kf hc)
theorem xs_icmp_le_t {x y : Int} {off : Int} {tgt : Nat} (hd : decode M.2.1 pc = .ok (.if_icmp .le off, 3)) (ht : (pc : Int) + off = (tgt : Int)) (hx : ir x) (hy : ir y) (hc : x ≤ y) : x_S M pc L (.inl y :: .inl x :: st) h tgt L st h := by
  intro r hf hb
  obtain ⟨hle, hw⟩ := hb
  refine ⟨hle, fun p l e s m args below meth c H locs ls d k0 n0 hC hR hL h1 h2 hq => ?_⟩
  exact lv_icmp_le hC.1 hC.2.1 hd ht (fun _ => hw p l e s m args below meth c H locs ls d k0 n0 hC hR hL h1 h2 hq) (fun q => absurd ((x_le hx hy).mpr hc) q)
theorem xs_icmp_le_f {x y : Int} {off : Int} {tgt : Nat} (hd : decode M.2.1 pc = .ok (.if_icmp .le off, 3)) (ht : (pc : Int) + off = (tgt : Int)) (hx : ir x) (hy : ir y) (hc : ¬ x ≤ y) : x_S M pc L (.inl y :: .inl x :: st) h (pc + 3) L st h := by
  intro r hf hb
  obtain ⟨hle, hw⟩ := hb
  refine ⟨hle, fun p l e s m args below meth c H locs ls d k0 n0 hC hR hL h1 h2 hq => ?_⟩
  exact lv_icmp_le hC.1 hC.2.1 hd ht (fun q => absurd ((x_le hx hy).mp q) hc) (fun _ => hw p l e s m args below meth c H locs ls d k0 n0 hC hR hL h1 h2 hq)
theorem xx_icmp_le {x y : Int} {off : Int} {tgt : Nat} (hd : decode M.2.1 pc = .ok (.if_icmp .le off, 3)) (ht : (pc : Int) + off = (tgt : Int)) (hx : ir x) (hy : ir y) {Q : Option xV → xH → Prop} (kt : x ≤ y → x_X M tgt L st h Q) (kf : ¬ x ≤ y → x_X M (pc + 3) L st h Q) : x_X M pc L (.inl y :: .inl x :: st) h Q := by
  by_cases hc : x ≤ y
  · exact xx (xs_icmp_le_t hd ht hx hy hc) (kt hc)
  · exact xx (xs_icmp_le_f hd ht hx hy hc) (kf hc)
theorem xs_if_le_t {x : Int} {off : Int} {tgt : Nat} (hd : decode M.2.1 pc = .ok (.ifCond .le off, 3)) (ht : (pc : Int) + off = (tgt : Int)) (hx : ir x) (hc : x ≤ 0) : x_S M pc L (.inl x :: st) h tgt L st h := by
  intro r hf hb
  obtain ⟨hle, hw⟩ := hb
  refine ⟨hle, fun p l e s m args below meth c H locs ls d k0 n0 hC hR hL h1 h2 hq => ?_⟩
  exact lv_if_le hC.1 hC.2.1 hd ht (fun _ => hw p l e s m args below meth c H locs ls d k0 n0 hC hR hL h1 h2 hq) (fun q => absurd ((x_le0 hx).mpr hc) q)
theorem xs_if_le_f {x : Int} {off : Int} {tgt : Nat} (hd : decode M.2.1 pc = .ok (.ifCond .le off, 3)) (ht : (pc : Int) + off = (tgt : Int)) (hx : ir x) (hc : ¬ x ≤ 0) : x_S M pc L (.inl x :: st) h (pc + 3) L st h := by
  intro r hf hb
  obtain ⟨hle, hw⟩ := hb
  refine ⟨hle, fun p l e s m args below meth c H locs ls d k0 n0 hC hR hL h1 h2 hq => ?_⟩
  exact lv_if_le hC.1 hC.2.1 hd ht (fun q => absurd ((x_le0 hx).mp q) hc) (fun _ => hw p l e s m args below meth c H locs ls d k0 n0 hC hR hL h1 h2 hq)
theorem xx_if_le {x : Int} {off : Int} {tgt : Nat} (hd : decode M.2.1 pc = .ok (.ifCond .le off, 3)) (ht : (pc : Int) + off = (tgt : Int)) (hx : ir x) {Q : Option xV → xH → Prop} (kt : x ≤ 0 → x_X M tgt L st h Q) (kf : ¬ x ≤ 0 → x_X M (pc + 3) L st h Q) : x_X M pc L (.inl x :: st) h Q := by
  by_cases hc : x ≤ 0
  · exact xx (xs_if_le_t hd ht hx hc) (kt hc)
  · exact xx (xs_if_le_f hd ht hx hc) (kf hc)
theorem xs_ifnull_t {off : Int} {tgt : Nat} (hd : decode M.2.1 pc = .ok (.ifnull off, 3)) (ht : (pc : Int) + off = (tgt : Int)) : x_S M pc L (.inr none :: st) h tgt L st h := by
  intro r hf hb
  obtain ⟨hle, hw⟩ := hb
  refine ⟨hle, fun p l e s m args below meth c H locs ls d k0 n0 hC hR hL h1 h2 hq => ?_⟩
  exact lv_ifnullN hC.1 hC.2.1 hd ht (hw p l e s m args below meth c H locs ls d k0 n0 hC hR hL h1 h2 hq)
theorem xs_ifnull_f {off : Int} {a : Nat} (hd : decode M.2.1 pc = .ok (.ifnull off, 3)) : x_S M pc L (.inr (some a) :: st) h (pc + 3) L st h := by
  intro r hf hb
  obtain ⟨hle, hw⟩ := hb
  refine ⟨hle, fun p l e s m args below meth c H locs ls d k0 n0 hC hR hL h1 h2 hq => ?_⟩
  exact lv_ifnull hC.1 hC.2.1 hd (hw p l e s m args below meth c H locs ls d k0 n0 hC hR hL h1 h2 hq)
theorem xs_ifnonnull_t {a : Nat} {off : Int} {tgt : Nat} (hd : decode M.2.1 pc = .ok (.ifnonnull off, 3)) (ht : (pc : Int) + off = (tgt : Int)) : x_S M pc L (.inr (some a) :: st) h tgt L st h := by
  intro r hf hb
  obtain ⟨hle, hw⟩ := hb
  refine ⟨hle, fun p l e s m args below meth c H locs ls d k0 n0 hC hR hL h1 h2 hq => ?_⟩
  exact lv_ifnonnull hC.1 hC.2.1 hd ht (hw p l e s m args below meth c H locs ls d k0 n0 hC hR hL h1 h2 hq)
theorem xs_ifnonnull_f {off : Int} (hd : decode M.2.1 pc = .ok (.ifnonnull off, 3)) : x_S M pc L (.inr none :: st) h (pc + 3) L st h := by
  intro r hf hb
  obtain ⟨hle, hw⟩ := hb
  refine ⟨hle, fun p l e s m args below meth c H locs ls d k0 n0 hC hR hL h1 h2 hq => ?_⟩
  exact lv_ifnonnullN hC.1 hC.2.1 hd (hw p l e s m args below meth c H locs ls d k0 n0 hC hR hL h1 h2 hq)
theorem xs_tableIn {dflt lo hi : Int} {offs : Array Int} {len : Nat} {x : Int} {off : Int} {tgt : Nat} (hd : decode M.2.1 pc = .ok (.tableswitch dflt lo hi offs, len)) (hx : ir x) (hlo : lo ≤ x) (hhi : x ≤ hi) (ho : offs[(x - lo).toNat]? = some off) (ht : (pc : Int) + off = (tgt : Int)) : x_S M pc L (.inl x :: st) h tgt L st h := by
  intro r hf hb
  obtain ⟨hle, hw⟩ := hb
  refine ⟨hle, fun p l e s m args below meth c H locs ls d k0 n0 hC hR hL h1 h2 hq => ?_⟩
  have e0 : (Int32.ofInt x).toInt = x := by rw [wr_toInt, wr_id hx]
  exact lv_tableIn hC.1 hC.2.1 hd (by rw [e0]; omega) (by rw [e0]; omega) (by rw [e0]; exact ho) ht (hw p l e s m args below meth c H locs ls d k0 n0 hC hR hL h1 h2 hq)
theorem xs_tableOut {dflt lo hi : Int} {offs : Array Int} {len : Nat} {x : Int} {tgt : Nat} (hd : decode M.2.1 pc = .ok (.tableswitch dflt lo hi offs, len)) (hx : ir x) (ho : x < lo ∨ hi < x) (ht : (pc : Int) + dflt = (tgt : Int)) : x_S M pc L (.inl x :: st) h tgt L st h := by
  intro r hf hb
  obtain ⟨hle, hw⟩ := hb
  refine ⟨hle, fun p l e s m args below meth c H locs ls d k0 n0 hC hR hL h1 h2 hq => ?_⟩
  have e0 : (Int32.ofInt x).toInt = x := by rw [wr_toInt, wr_id hx]
  exact lv_tableOut hC.1 hC.2.1 hd (by rw [e0]; exact ho) ht (hw p l e s m args below meth c H locs ls d k0 n0 hC hR hL h1 h2 hq)
end XS
