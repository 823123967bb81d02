/-! the law's own steps: calls of both, and the script -/
section YL
variable {p : Program} {l : Launch} {e : Env} {R : Room} {s : State} {m : MethodId} {args : Array Value} {below : List Frame} {meth : Method} {c : Code} {H : Heap} {locs : List Loc} {cells slots : Nat} {Q : State → Prop}
theorem y_gi {M' : xM} {n : Nat} (hc : x_cd M' n) : GoodIn x_ws (x_wM M') := by
  intro w hw
  unfold x_wM at hw
  rcases List.mem_cons.mp hw with h | h
  · subst h
    exact ⟨hc.1, x_good _ hc.1⟩
  · exact ⟨h, x_good _ h⟩
/-- what holds all along the law -/
def yC (p : Program) (s : State) (m : MethodId) (args : Array Value) (c : Code) (d : xD) : Prop := p.tables.exec = Jvm.exec ∧ c.code = code ∧ c.maxLocals = 4 ∧ s.vm.findClass "SequentMachineLaw" = some m.cls ∧ (∀ w ∈ x_ws, w.before args s = true) ∧ x_K d s ∧ d.1 = s.heap.size
theorem y_callV {M' : xM} {idx n a ci pc : Nat} {as : List xV} {rest : List Value} {fs : List xV} {r : Option xV} {h h1 : xH} {d : xD} {ls : Array Slot} {lv : List (Nat × Value)} (hC : yC p s m args c d) (hR : x_R d h H) (hq : ∀ q ∈ locs, d.1 ≤ q.base) (hL : lv_has ls 4 lv) (hd : decode code pc = .ok (.invokevirtual idx, 3)) (hcd : x_cd M' n) (hml : Cond.methodLink "SequentMachineLaw" idx M'.1 ∈ x_ws) (hin : Cond.instanceMethod M'.1 ∈ x_ws ∧ Cond.selects M'.1.cls M'.1 M'.1 ∈ x_ws) (hrr : M'.2.2.2.2.1 + 1 ≤ R.frames ∧ 8 + (M'.2.2.1 + 11) + M'.2.2.2.2.2 ≤ R.locals) (hn : as.length = n) (ha : h.1[a]? = some (.inr (.inr (ci, fs)))) (hci : (cl_s[ci]?).map (fun z => z.1) = some M'.1.cls) (hrest : (rest.map fun v => v.category).sum ≤ 8) (hM : x_M M' (.inr (some a) :: as) h r h1) (hcs : cells + (h1.1.length - h.1.length) ≤ R.cells ∧ slots + (h1.2 - h.2) ≤ R.slots)
    (kk : ∀ (H1 : Heap) (locs1 : List Loc), x_R d h1 H1 → (∀ q ∈ locs1, d.1 ≤ q.base) → W p l e R s m args below meth c H1 locs1 (cells + (h1.1.length - h.1.length)) (slots + (h1.2 - h.2)) Q (F0 m (pc + 3) ls ((r.map (x_v d.1)).toList ++ rest))) : W p l e R s m args below meth c H locs cells slots Q (F0 m pc ls ((as.map (x_v d.1)).reverse ++ .ref (d.1 + a) :: rest)) := by
  obtain ⟨hx, hbt, hmx, hown, hts, hK, -⟩ := hC
  obtain ⟨hle1, hm⟩ := hM
  obtain ⟨r0, g0, -⟩ := hR.2 a _ ha
  have hcn : r0.1 = M'.1.cls := by
    have g0' : cl_s[ci]? = some r0 := g0
    rw [g0'] at hci
    exact Option.some.inj hci
  have hrec := va_recv hK.1 (hR.sing ha) g0 (q0 := 0) rfl
  rw [hcn] at hrec
  have hp : PreV s H M'.1.cls (d.1 + a) (va_Pc ((.inr (some a) :: as).map (x_v d.1)) (fun U => x_R d h U.heap ∧ x_K d U)) (as.map (x_v d.1)) :=
    ⟨fun aa U g mk q => ⟨q.1, q.2.1, x_K_same (s := U) (U := U.calling g mk aa) rfl q.2.2⟩, hrec, fun U hU hW => ⟨rfl, by rw [hU]; exact hR, x_K_warm hW hK⟩⟩
  have hroom : 2 * (F0 m pc ls ((as.map (x_v d.1)).reverse ++ .ref (d.1 + a) :: rest)).monitorRoom + (rest.map fun v => v.category).sum ≤ 8 := lv_room (rest := (as.map (x_v d.1)).reverse ++ .ref (d.1 + a) :: rest) hrest
  have hlen : (as.map (x_v d.1)).length = n := by rw [List.length_map]; exact hn
  refine x_after (mc := h1.1.length - h.1.length) (ms := h1.2 - h.2) (rest := rest) (d := d) (r := r) (h1 := h1) hq ?_ kk
  have cb := callB_of (R := R) (rm := x_rm M' (h1.1.length - h.1.length) (h1.2 - h.2)) n hts (y_gi hcd) rfl rfl rfl (hts _ hcd.2.1) (hts _ hml) hcd.2.2 hrr
  have hr := va_runV (l := l) (e := e) (below := below) (meth := meth) (locs := locs) (cells := cells) (slots := slots) (Ts := x_ws) ⟨hx, hbt, hmx, hown, hts⟩ (hm l d) ⟨cb, hts _ hin.1, hts _ hin.2⟩ hp (g := F0 m pc ls ((as.map (x_v d.1)).reverse ++ .ref (d.1 + a) :: rest)) rfl hlen hL.1 rfl hroom hd hcs
  intro T hT X
  obtain ⟨v, st₀, t, T', L', -, X', hL', e1, -, hq1, st1⟩ := hr T hT X
  exact ⟨v, t, T', L', X', hL', e1, hq1, st1⟩
theorem y_callI {M' : xM} {idx n a pc : Nat} {as : List xV} {rest : List Value} {h h1 : xH} {d : xD} {ls : Array Slot} {lv : List (Nat × Value)} (hC : yC p s m args c d) (hR : x_R d h H) (hq : ∀ q ∈ locs, d.1 ≤ q.base) (hL : lv_has ls 4 lv) (hd : decode code pc = .ok (.invokespecial idx, 3)) (hcd : x_cd M' n) (hml : Cond.methodLink "SequentMachineLaw" idx M'.1 ∈ x_ws) (hin : Cond.instanceMethod M'.1 ∈ x_ws ∧ M'.1.name = "<init>" ∧ M'.2.2.2.1 = none) (hrr : M'.2.2.2.2.1 + 1 ≤ R.frames ∧ 8 + (M'.2.2.1 + 11) + M'.2.2.2.2.2 ≤ R.locals) (hn : as.length = n) (hrest : (rest.map fun v => v.category).sum ≤ 8) (hM : x_M M' (.inr (some a) :: as) h none h1) (hcs : cells + (h1.1.length - h.1.length) ≤ R.cells ∧ slots + (h1.2 - h.2) ≤ R.slots)
    (kk : ∀ (H1 : Heap) (locs1 : List Loc), x_R d h1 H1 → (∀ q ∈ locs1, d.1 ≤ q.base) → W p l e R s m args below meth c H1 locs1 (cells + (h1.1.length - h.1.length)) (slots + (h1.2 - h.2)) Q (F0 m (pc + 3) ls rest)) : W p l e R s m args below meth c H locs cells slots Q (F0 m pc ls ((as.map (x_v d.1)).reverse ++ .ref (d.1 + a) :: rest)) := by
  obtain ⟨hx, hbt, hmx, hown, hts, hK, -⟩ := hC
  obtain ⟨hle1, hm⟩ := hM
  have hp : PreS s H (va_Pc ((.inr (some a) :: as).map (x_v d.1)) (fun U => x_R d h U.heap ∧ x_K d U)) (.ref (d.1 + a) :: as.map (x_v d.1)) :=
    ⟨fun aa U g mk q => ⟨q.1, q.2.1, x_K_same (s := U) (U := U.calling g mk aa) rfl q.2.2⟩, fun U hU hW => ⟨rfl, by rw [hU]; exact hR, x_K_warm hW hK⟩⟩
  have hroom : 2 * (F0 m pc ls ((as.map (x_v d.1)).reverse ++ .ref (d.1 + a) :: rest)).monitorRoom + (rest.map fun v => v.category).sum ≤ 8 := lv_room (rest := (as.map (x_v d.1)).reverse ++ .ref (d.1 + a) :: rest) hrest
  have hlen : (as.map (x_v d.1)).length = n := by rw [List.length_map]; exact hn
  have hwM : x_wM M' = Cond.code M'.1 M'.2.1 M'.2.2.1 none :: x_ws := by unfold x_wM; rw [hin.2.2]
  refine x_after (mc := h1.1.length - h.1.length) (ms := h1.2 - h.2) (rest := rest) (d := d) (r := none) (h1 := h1) hq ?_ kk
  have cb := callB_of (R := R) (rm := x_rm M' (h1.1.length - h.1.length) (h1.2 - h.2)) n hts (y_gi hcd) hwM rfl rfl (hts _ hcd.2.1) (hts _ hml) hcd.2.2 hrr
  have hr := va_runI (l := l) (e := e) (below := below) (meth := meth) (locs := locs) (cells := cells) (slots := slots) (Ts := x_ws) ⟨hx, hbt, hmx, hown, hts⟩ (hm l d) ⟨cb, hin.2.1, hts _ hin.1⟩ hp (g := F0 m pc ls ((as.map (x_v d.1)).reverse ++ .ref (d.1 + a) :: rest)) rfl hlen hL.1 rfl hroom hd hcs
  intro T hT X
  obtain ⟨v, st₀, t, T', L', -, X', hL', e1, -, hq1, st1⟩ := hr T hT X
  exact ⟨v, t, T', L', X', hL', e1, hq1, st1⟩
theorem y_new {ci idx pc : Nat} {dv : List xV} {h : xH} {d : xD} {ls : Array Slot} {rest : List Value} (hC : yC p s m args c d) (hR : x_R d h H) (hd : decode code pc = .ok (.new idx, 3)) (hn : x_nl "SequentMachineLaw" idx ci dv) (hcs : cells + 1 ≤ R.cells ∧ slots + dv.length ≤ R.slots)
    (kk : ∀ H1 : Heap, x_R d (h.1 ++ [.inr (.inr (ci, dv))], h.2 + dv.length) H1 → W p l e R s m args below meth c H1 locs (cells + 1) (slots + dv.length) Q (F0 m (pc + 3) ls (.ref (d.1 + h.1.length) :: rest))) : W p l e R s m args below meth c H locs cells slots Q (F0 m pc ls rest) := by
  obtain ⟨hx, hbt, hmx, hown, hts, hK, -⟩ := hC
  obtain ⟨C, T, N, ty0, hc, hN, hin, hty, hdv, hcl, hins, hini⟩ := hn
  have hKn := hK.1.1 ci _ hc
  subst hN
  refine W.newcK hx hbt hown (hts _ hcl) (hts _ hins) (hts _ hini) rfl hd hcs.1 hcs.2 hKn.2.1 rfl fun H1 kC hkC e1 z1 o1 => ?_
  have k := kk H1 (hR.push z1 o1 ⟨_, hc, (u_born ty0 hts hin hKn hkC e1 hty).to (fun j hj => hdv d.1 j hj)⟩)
  rw [hR.1]
  exact k
theorem y_scr {b L : Nat} {xs : Nat → Int32} {g : JFrame} (hX : va_X b L xs s s.heap) (hb : b < s.heap.size) (hq : ∀ q ∈ locs, s.heap.size ≤ q.base) (kk : va_X b L xs s H → W p l e R s m args below meth c H locs cells slots Q g) : W p l e R s m args below meth c H locs cells slots Q g := by
  intro T hT X
  refine kk ?_ T hT X
  obtain ⟨scr, h1, h2⟩ := hX
  obtain ⟨c', g1, g2, g3, g4⟩ := X.same.2.2.2.2.2 b scr h1
  have e1 : c'.slots = scr.slots := by
    apply Array.ext_getElem?
    intro i
    exact g4 i (fun hm => by have := hq _ hm; have : s.heap.size ≤ b := this; omega)
  have e2 : c' = scr := by rw [g2, e1]
  subst e2
  exact ⟨c', by rw [← hT]; exact g1, h2⟩
theorem y_ald {b L pc : Nat} {xs : Nat → Int32} {i : Int} {ls : Array Slot} {rest : List Value} (hx : p.tables.exec = Jvm.exec) (hbt : c.code = code) (hX : va_X b L xs s s.heap) (hb : b < s.heap.size) (hq : ∀ q ∈ locs, s.heap.size ≤ q.base) (h0 : 0 ≤ i) (h1 : i < (L : Int)) (hL : L ≤ 2048) (hd : decode code pc = .ok (.iaload, 1)) (kk : W p l e R s m args below meth c H locs cells slots Q (F0 m (pc + 1) ls (.int (xs i.toNat) :: rest))) : W p l e R s m args below meth c H locs cells slots Q (F0 m pc ls (.int (Int32.ofInt i) :: .ref b :: rest)) := by
  refine y_scr hX hb hq (fun hX => ?_)
  obtain ⟨scr, g1, g2, g3, g4, g5⟩ := hX
  have e := x_cl h0 (by omega)
  refine W.iald (v := .int (xs i.toNat)) hx hbt g1 g2 g3 ?_ (by rw [e]; exact g5 _ (by omega)) rfl rfl hd kk
  rintro (q | q)
  · exact x_n0 h0 (by omega) q
  · rw [e, g4] at q; omega
theorem y_len {b L pc : Nat} {xs : Nat → Int32} {ls : Array Slot} {rest : List Value} (hx : p.tables.exec = Jvm.exec) (hbt : c.code = code) (hX : va_X b L xs s s.heap) (hb : b < s.heap.size) (hq : ∀ q ∈ locs, s.heap.size ≤ q.base) (hd : decode code pc = .ok (.arraylength, 1)) (kk : W p l e R s m args below meth c H locs cells slots Q (F0 m (pc + 1) ls (.int (Int32.ofInt (L : Int)) :: rest))) : W p l e R s m args below meth c H locs cells slots Q (F0 m pc ls (.ref b :: rest)) := by
  refine y_scr hX hb hq (fun hX => ?_)
  obtain ⟨scr, g1, g2, g3, g4, g5⟩ := hX
  refine W.alen (n := Int32.ofInt (L : Int)) hx hbt g1 g2 (by rw [g4] <;> rfl) rfl rfl hd kk
/-- script[i + k] -/
theorem y_arg {b L pc : Nat} {xs : Nat → Int32} {i k : Int} {ls : Array Slot} {lv : List (Nat × Value)} {rest : List Value} (hx : p.tables.exec = Jvm.exec) (hbt : c.code = code) (hX : va_X b L xs s s.heap) (hb : b < s.heap.size) (hq : ∀ q ∈ locs, s.heap.size ≤ q.base) (hls : ls[0]? = some (.val (.ref b))) (hl3 : ls[3]? = some (.val (.int (Int32.ofInt i)))) (h0 : 0 ≤ i + k) (h1 : i + k < (L : Int)) (hL : L ≤ 2048) (d0 : decode code pc = .ok (.aload_n 0, 1)) (d1 : decode code (pc + 1) = .ok (.iload_n 3, 1)) (d2 : decode code (pc + 2) = .ok (.iconst k, 1)) (d3 : decode code (pc + 3) = .ok (.iadd, 1)) (d4 : decode code (pc + 4) = .ok (.iaload, 1)) (kk : W p l e R s m args below meth c H locs cells slots Q (F0 m (pc + 5) ls (.int (Int32.ofInt (xs (i + k).toNat).toInt) :: rest))) : W p l e R s m args below meth c H locs cells slots Q (F0 m pc ls rest) := by
  refine lv_aload_n hx hbt d0 rfl hls ?_
  refine lv_iload_n hx hbt d1 rfl hl3 ?_
  refine lv_iconst hx hbt d2 rfl ?_
  refine lv_iadd hx hbt d3 ?_
  rw [← Int32.ofInt_add]
  refine y_ald hx hbt hX hb hq h0 h1 hL d4 ?_
  rw [← Int32.ofInt_toInt (xs (i + k).toNat)]
  rw [Int32.ofInt_toInt]
  rw [Int32.ofInt_toInt] at kk
  exact kk
theorem y_ir (x : Int32) : ir x.toInt := ⟨Int32.le_toInt x, Int32.toInt_lt x⟩
end YL
