/-! calls -/
theorem x_N_warm {s U : State} (hW : s.WarmedH U.vm) (h : ∀ w ∈ x_N, va_Nw w s) : ∀ w ∈ x_N, va_Nw w U := by
  intro w hw
  have hz := h w hw
  unfold x_N at hw
  rcases List.mem_append.mp hw with h1 | h1
  · obtain ⟨q, -, rfl⟩ := List.mem_map.mp h1
    exact va_Nw.warmF hW hz
  · obtain ⟨q, -, rfl⟩ := List.mem_map.mp h1
    exact va_Nw.warmM hW hz
theorem x_N_same {s U : State} (hv : s.vm = U.vm) (h : ∀ w ∈ x_N, va_Nw w s) : ∀ w ∈ x_N, va_Nw w U := by
  intro w hw
  have hz := h w hw
  unfold x_N at hw
  rcases List.mem_append.mp hw with h1 | h1
  · obtain ⟨q, -, rfl⟩ := List.mem_map.mp h1
    exact va_Nw.same rfl hv hz
  · obtain ⟨q, -, rfl⟩ := List.mem_map.mp h1
    exact va_Nw.same rfl hv hz
theorem x_K_warm {d : xD} {s U : State} (hW : s.WarmedH U.vm) (h : x_K d s) : x_K d U :=
  ⟨va_K.moved hW.alike h.1, x_N_warm hW h.2.1, va_AO.moved hW.alike h.2.2.1, va_AO.moved hW.alike h.2.2.2.1, va_Nw.warmC hW h.2.2.2.2⟩
theorem x_K_same {d : xD} {s U : State} (hv : s.vm = U.vm) (h : x_K d s) : x_K d U := by
  have ha : s.vm.Alike U.vm := by rw [← hv]; exact Vm.Alike.refl _
  exact ⟨va_K.moved ha h.1, x_N_same hv h.2.1, va_AO.moved ha h.2.2.1, va_AO.moved ha h.2.2.2.1, va_Nw.same rfl hv h.2.2.2.2⟩
theorem x_sum (b : Nat) (l : List xV) : ((l.map (x_v b)).map (fun v => v.category)).sum = l.length := by
  induction l with
  | nil => rfl
  | cons v l ih => simp only [List.map_cons, List.sum_cons, List.length_cons, x_cat] at ih ⊢; omega
def x_cd (M' : xM) (n : Nat) : Prop := Cond.code M'.1 M'.2.1 M'.2.2.1 M'.2.2.2.1 ∈ x_ws ∧ Cond.initialized M'.1.cls ∈ x_ws ∧ (M'.1.cls ≠ "java/lang/invoke/MethodHandle" ∧ M'.1.cls ≠ "java/lang/invoke/VarHandle" ∧ (parseMethodDescriptor M'.1.desc).map (fun d => d.parameters.length) = some n)
def x_ml (own : String) (idx : Nat) (y : MethodName) : Prop := Cond.methodLink own idx y ∈ x_ws ∨ ∃ host, Cond.methodLinkNest own idx y host ∈ x_N
def x_rr (M M' : xM) : Prop := M'.2.2.2.2.1 + 1 ≤ M.2.2.2.2.1 ∧ 8 + (M'.2.2.1 + 11) + M'.2.2.2.2.2 ≤ M.2.2.2.2.2
theorem x_gi {M M' : xM} {n : Nat} (hc : x_cd M' n) : GoodIn (x_wM M) (x_wM M') := by
  intro w hw
  unfold x_wM at hw
  rcases List.mem_cons.mp hw with h | h
  · subst h
    exact ⟨List.mem_cons_of_mem _ hc.1, x_good _ hc.1⟩
  · exact ⟨List.mem_cons_of_mem _ h, x_good _ h⟩
section XA
variable {p : Program} {l : Launch} {e : Env} {R : Room} {s : State} {m : MethodId} {args : Array Value} {below : List Frame} {meth : Method} {c : Code} {H : Heap} {locs : List Loc} {cells slots : Nat} {Q : State → Prop}
theorem x_after {pc mc ms : Nat} {ls : Array Slot} {st0 rest : List Value} {d : xD} {r : Option xV} {h1 : xH} (hq : ∀ q ∈ locs, d.1 ≤ q.base)
    (hr : ∀ T : State, T.heap = H → Stand p l e R s m args below meth c T locs cells slots → ∃ (v : Option Value) (t T' : State) (L : List Loc), Stand p l e R s m args below meth c T' (locs ++ L) (cells + mc) (slots + ms) ∧ (∀ q ∈ L, d.1 ≤ q.base) ∧ T'.heap = t.heap ∧ (Outcome.returned v = .returned (r.map (x_v d.1)) ∧ x_R d h1 t.heap) ∧ Goes p e below T (F0 m pc ls st0) T' (F0 m (pc + 3) ls (v.toList ++ rest)))
    (kk : ∀ (H1 : Heap) (locs1 : List Loc), x_R d h1 H1 → (∀ q ∈ locs1, d.1 ≤ q.base) → W p l e R s m args below meth c H1 locs1 (cells + mc) (slots + ms) Q (F0 m (pc + 3) ls ((r.map (x_v d.1)).toList ++ rest))) : W p l e R s m args below meth c H locs cells slots Q (F0 m pc ls st0) := by
  intro T hT X
  obtain ⟨v, t, T', L, X', hL, e1, ⟨hv, hR1⟩, st1⟩ := hr T hT X
  have hv := Outcome.returned.inj hv
  subst hv
  obtain ⟨t2, a1, b1⟩ := kk T'.heap (locs ++ L) (by rw [e1]; exact hR1) (t_lL hq hL) T' rfl X'
  exact ⟨t2, st1 t2 a1, b1⟩
end XA
section XD
variable {M : xM} {pc : Nat} {L : List (Option xV)} {st : List xV} {h : xH}
theorem xs_callV {M' : xM} {idx n a ci : Nat} {as rest fs : List xV} {r : Option xV} {h1 : xH} (hd : decode M.2.1 pc = .ok (.invokevirtual idx, 3)) (hcd : x_cd M' n) (hml : x_ml M.1.cls idx M'.1) (hin : Cond.instanceMethod M'.1 ∈ x_ws ∧ Cond.selects M'.1.cls M'.1 M'.1 ∈ x_ws) (hrr : x_rr M M') (hn : as.length = n) (hst : st = as.reverse ++ .inr (some a) :: rest) (ha : h.1[a]? = some (.inr (.inr (ci, fs)))) (hci : (cl_s[ci]?).map (fun z => z.1) = some M'.1.cls) (hrest : rest.length ≤ 8) (hM : x_M M' (.inr (some a) :: as) h r h1) : x_S M pc L st h (pc + 3) L (r.toList ++ rest) h1 := by
  intro r' hf hb
  obtain ⟨hle, hw⟩ := hb
  obtain ⟨hle1, hm⟩ := hM
  refine ⟨by omega, fun p l e s m args below meth c H locs ls d k0 n0 hC hR hL h1' h2 hq => ?_⟩
  have hC' := hC
  obtain ⟨hx, hbt, hmx, hown, hts, hret, hlk, hnm, hK⟩ := hC'
  obtain ⟨r0, g0, -⟩ := hR.2 a _ ha
  have hcn : r0.1 = M'.1.cls := by
    have g0' : cl_s[ci]? = some r0 := g0
    rw [g0'] at hci
    exact Option.some.inj hci
  have hrec := va_recv hK.1 (hR.sing ha) g0 (q0 := 0) rfl
  rw [hcn] at hrec
  have hp : PreV s H M'.1.cls (d.1 + a) (va_Pc ((.inr (some a) :: as).map (x_v d.1)) (fun U => x_R d h U.heap ∧ x_K d U)) (as.map (x_v d.1)) :=
    ⟨fun aa U g mk q => ⟨q.1, q.2.1, x_K_same (s := U) (U := U.calling g mk aa) rfl q.2.2⟩, hrec, fun U hU hW => ⟨rfl, by rw [hU]; exact hR, x_K_warm hW hK⟩⟩
  have hstk : st.map (x_v d.1) = (as.map (x_v d.1)).reverse ++ .ref (d.1 + a) :: rest.map (x_v d.1) := by
    rw [hst]; simp [x_v, x_r, va_rf]
  have hroom : 2 * (F0 m pc ls (st.map (x_v d.1))).monitorRoom + ((rest.map (x_v d.1)).map fun v => v.category).sum ≤ 8 := lv_room (rest := st.map (x_v d.1)) (by rw [x_sum]; exact hrest)
  have hlen : (as.map (x_v d.1)).length = n := by rw [List.length_map]; exact hn
  have hcs : (h.1.length - k0) + (h1.1.length - h.1.length) ≤ (x_rm M (hf.1.length - k0) (hf.2 - n0)).cells ∧ (h.2 - n0) + (h1.2 - h.2) ≤ (x_rm M (hf.1.length - k0) (hf.2 - n0)).slots := ⟨by show _ ≤ hf.1.length - k0; omega, by show _ ≤ hf.2 - n0; omega⟩
  refine x_after (mc := h1.1.length - h.1.length) (ms := h1.2 - h.2) (rest := rest.map (x_v d.1)) (d := d) (r := r) (h1 := h1) hq ?_ (fun H1 locs1 hR1 hq1 => ?_)
  · rcases hml with hml | ⟨host, hml⟩
    · have cb := callB_of (R := x_rm M (hf.1.length - k0) (hf.2 - n0)) (rm := x_rm M' (h1.1.length - h.1.length) (h1.2 - h.2)) n hts (x_gi hcd) rfl rfl rfl (hts _ (List.mem_cons_of_mem _ hcd.2.1)) (hts _ (List.mem_cons_of_mem _ hml)) hcd.2.2 hrr
      have hr := va_runV (l := l) (e := e) (below := below) (meth := meth) (locs := locs) (cells := h.1.length - k0) (slots := h.2 - n0) (Ts := x_wM M) ⟨hx, hbt, hmx, hown, hts⟩ (hm l d) ⟨cb, hts _ (List.mem_cons_of_mem _ hin.1), hts _ (List.mem_cons_of_mem _ hin.2)⟩ hp (g := F0 m pc ls (st.map (x_v d.1))) rfl hlen hL.1 hstk hroom hd hcs
      intro T hT X
      obtain ⟨v, st₀, t, T', L', -, X', hL', e1, -, hq1, st1⟩ := hr T hT X
      exact ⟨v, t, T', L', X', hL', e1, hq1, st1⟩
    · have cb := va_cnB (R := x_rm M (hf.1.length - k0) (hf.2 - n0)) (rm := x_rm M' (h1.1.length - h.1.length) (h1.2 - h.2)) n hts (x_gi hcd) rfl rfl rfl (hK.2.1 _ hml) (hts _ (List.mem_cons_of_mem _ hcd.2.1)) hcd.2.2 hrr
      have hr := va_runVN (l := l) (e := e) (below := below) (meth := meth) (locs := locs) (cells := h.1.length - k0) (slots := h.2 - n0) (Ts := x_wM M) ⟨hx, hbt, hmx, hown, hts⟩ (hm l d) ⟨cb, hts _ (List.mem_cons_of_mem _ hin.1), hts _ (List.mem_cons_of_mem _ hin.2)⟩ hp (g := F0 m pc ls (st.map (x_v d.1))) rfl hlen hL.1 hstk hroom hd hcs
      intro T hT X
      obtain ⟨v, st₀, t, T', L', -, X', hL', e1, -, hq1, st1⟩ := hr T hT X
      exact ⟨v, t, T', L', X', hL', e1, hq1, st1⟩
  · have k := hw p l e s m args below meth c H1 locs1 ls d k0 n0 hC hR1 hL (by omega) (by omega) hq1
    refine W.cs (cells' := h1.1.length - k0) (slots' := h1.2 - n0) (by omega) (by omega) ?_
    cases r <;> exact k
theorem xs_callI {M' : xM} {idx n a : Nat} {as rest : List xV} {h1 : xH} (hd : decode M.2.1 pc = .ok (.invokespecial idx, 3)) (hcd : x_cd M' n) (hml : x_ml M.1.cls idx M'.1) (hin : Cond.instanceMethod M'.1 ∈ x_ws ∧ M'.1.name = "<init>" ∧ M'.2.2.2.1 = none) (hrr : x_rr M M') (hn : as.length = n) (hst : st = as.reverse ++ .inr (some a) :: rest) (hrest : rest.length ≤ 8) (hM : x_M M' (.inr (some a) :: as) h none h1) : x_S M pc L st h (pc + 3) L rest h1 := by
  intro r' hf hb
  obtain ⟨hle, hw⟩ := hb
  obtain ⟨hle1, hm⟩ := hM
  refine ⟨by omega, fun p l e s m args below meth c H locs ls d k0 n0 hC hR hL h1' h2 hq => ?_⟩
  have hC' := hC
  obtain ⟨hx, hbt, hmx, hown, hts, hret, hlk, hnm, hK⟩ := hC'
  have hp : PreS s H (va_Pc ((.inr (some a) :: as).map (x_v d.1)) (fun U => x_R d h U.heap ∧ x_K d U)) (.ref (d.1 + a) :: as.map (x_v d.1)) :=
    ⟨fun aa U g mk q => ⟨q.1, q.2.1, x_K_same (s := U) (U := U.calling g mk aa) rfl q.2.2⟩, fun U hU hW => ⟨rfl, by rw [hU]; exact hR, x_K_warm hW hK⟩⟩
  have hstk : st.map (x_v d.1) = (as.map (x_v d.1)).reverse ++ .ref (d.1 + a) :: rest.map (x_v d.1) := by
    rw [hst]; simp [x_v, x_r, va_rf]
  have hroom : 2 * (F0 m pc ls (st.map (x_v d.1))).monitorRoom + ((rest.map (x_v d.1)).map fun v => v.category).sum ≤ 8 := lv_room (rest := st.map (x_v d.1)) (by rw [x_sum]; exact hrest)
  have hlen : (as.map (x_v d.1)).length = n := by rw [List.length_map]; exact hn
  have hcs : (h.1.length - k0) + (h1.1.length - h.1.length) ≤ (x_rm M (hf.1.length - k0) (hf.2 - n0)).cells ∧ (h.2 - n0) + (h1.2 - h.2) ≤ (x_rm M (hf.1.length - k0) (hf.2 - n0)).slots := ⟨by show _ ≤ hf.1.length - k0; omega, by show _ ≤ hf.2 - n0; omega⟩
  have hwM : x_wM M' = Cond.code M'.1 M'.2.1 M'.2.2.1 none :: x_ws := by unfold x_wM; rw [hin.2.2]
  refine x_after (mc := h1.1.length - h.1.length) (ms := h1.2 - h.2) (rest := rest.map (x_v d.1)) (d := d) (r := none) (h1 := h1) hq ?_ (fun H1 locs1 hR1 hq1 => ?_)
  · rcases hml with hml | ⟨host, hml⟩
    · have cb := callB_of (R := x_rm M (hf.1.length - k0) (hf.2 - n0)) (rm := x_rm M' (h1.1.length - h.1.length) (h1.2 - h.2)) n hts (x_gi hcd) hwM rfl rfl (hts _ (List.mem_cons_of_mem _ hcd.2.1)) (hts _ (List.mem_cons_of_mem _ hml)) hcd.2.2 hrr
      have hr := va_runI (l := l) (e := e) (below := below) (meth := meth) (locs := locs) (cells := h.1.length - k0) (slots := h.2 - n0) (Ts := x_wM M) ⟨hx, hbt, hmx, hown, hts⟩ (hm l d) ⟨cb, hin.2.1, hts _ (List.mem_cons_of_mem _ hin.1)⟩ hp (g := F0 m pc ls (st.map (x_v d.1))) rfl hlen hL.1 hstk hroom hd hcs
      intro T hT X
      obtain ⟨v, st₀, t, T', L', -, X', hL', e1, -, hq1, st1⟩ := hr T hT X
      exact ⟨v, t, T', L', X', hL', e1, hq1, st1⟩
    · have cb := va_cnB (R := x_rm M (hf.1.length - k0) (hf.2 - n0)) (rm := x_rm M' (h1.1.length - h.1.length) (h1.2 - h.2)) n hts (x_gi hcd) hwM rfl rfl (hK.2.1 _ hml) (hts _ (List.mem_cons_of_mem _ hcd.2.1)) hcd.2.2 hrr
      have hr := va_runIN (l := l) (e := e) (below := below) (meth := meth) (locs := locs) (cells := h.1.length - k0) (slots := h.2 - n0) (Ts := x_wM M) ⟨hx, hbt, hmx, hown, hts⟩ (hm l d) ⟨cb, hin.2.1, hts _ (List.mem_cons_of_mem _ hin.1)⟩ hp (g := F0 m pc ls (st.map (x_v d.1))) rfl hlen hL.1 hstk hroom hd hcs
      intro T hT X
      obtain ⟨v, st₀, t, T', L', -, X', hL', e1, -, hq1, st1⟩ := hr T hT X
      exact ⟨v, t, T', L', X', hL', e1, hq1, st1⟩
  · have k := hw p l e s m args below meth c H1 locs1 ls d k0 n0 hC hR1 hL (by omega) (by omega) hq1
    exact W.cs (cells' := h1.1.length - k0) (slots' := h1.2 - n0) (by omega) (by omega) k
theorem xs_callS {M' : xM} {idx n : Nat} {as rest : List xV} {r : Option xV} {h1 : xH} (hd : decode M.2.1 pc = .ok (.invokestatic idx, 3)) (hcd : x_cd M' n) (hml : x_ml M.1.cls idx M'.1) (hin : Cond.static M'.1 ∈ x_ws) (hrr : x_rr M M') (hn : as.length = n) (hst : st = as.reverse ++ rest) (hrest : rest.length ≤ 8) (hM : x_M M' as h r h1) : x_S M pc L st h (pc + 3) L (r.toList ++ rest) h1 := by
  intro r' hf hb
  obtain ⟨hle, hw⟩ := hb
  obtain ⟨hle1, hm⟩ := hM
  refine ⟨by omega, fun p l e s m args below meth c H locs ls d k0 n0 hC hR hL h1' h2 hq => ?_⟩
  have hC' := hC
  obtain ⟨hx, hbt, hmx, hown, hts, hret, hlk, hnm, hK⟩ := hC'
  have hp : PreS s H (va_Pc (as.map (x_v d.1)) (fun U => x_R d h U.heap ∧ x_K d U)) (as.map (x_v d.1)) :=
    ⟨fun aa U g mk q => ⟨q.1, q.2.1, x_K_same (s := U) (U := U.calling g mk aa) rfl q.2.2⟩, fun U hU hW => ⟨rfl, by rw [hU]; exact hR, x_K_warm hW hK⟩⟩
  have hstk : st.map (x_v d.1) = (as.map (x_v d.1)).reverse ++ rest.map (x_v d.1) := by
    rw [hst]; simp
  have hroom : 2 * (F0 m pc ls (st.map (x_v d.1))).monitorRoom + ((rest.map (x_v d.1)).map fun v => v.category).sum ≤ 8 := lv_room (rest := st.map (x_v d.1)) (by rw [x_sum]; exact hrest)
  have hlen : (as.map (x_v d.1)).length = n := by rw [List.length_map]; exact hn
  have hcs : (h.1.length - k0) + (h1.1.length - h.1.length) ≤ (x_rm M (hf.1.length - k0) (hf.2 - n0)).cells ∧ (h.2 - n0) + (h1.2 - h.2) ≤ (x_rm M (hf.1.length - k0) (hf.2 - n0)).slots := ⟨by show _ ≤ hf.1.length - k0; omega, by show _ ≤ hf.2 - n0; omega⟩
  refine x_after (mc := h1.1.length - h.1.length) (ms := h1.2 - h.2) (rest := rest.map (x_v d.1)) (d := d) (r := r) (h1 := h1) hq ?_ (fun H1 locs1 hR1 hq1 => ?_)
  · rcases hml with hml | ⟨host, hml⟩
    · have cb := callB_of (R := x_rm M (hf.1.length - k0) (hf.2 - n0)) (rm := x_rm M' (h1.1.length - h.1.length) (h1.2 - h.2)) n hts (x_gi hcd) rfl rfl rfl (hts _ (List.mem_cons_of_mem _ hcd.2.1)) (hts _ (List.mem_cons_of_mem _ hml)) hcd.2.2 hrr
      have hr := va_runS (l := l) (e := e) (below := below) (meth := meth) (locs := locs) (cells := h.1.length - k0) (slots := h.2 - n0) (Ts := x_wM M) ⟨hx, hbt, hmx, hown, hts⟩ (hm l d) ⟨cb, hts _ (List.mem_cons_of_mem _ hin)⟩ hp (g := F0 m pc ls (st.map (x_v d.1))) rfl hlen hL.1 hstk hroom hd hcs
      intro T hT X
      obtain ⟨v, st₀, t, T', L', -, X', hL', e1, -, hq1, st1⟩ := hr T hT X
      exact ⟨v, t, T', L', X', hL', e1, hq1, st1⟩
    · have cb := va_cnB (R := x_rm M (hf.1.length - k0) (hf.2 - n0)) (rm := x_rm M' (h1.1.length - h.1.length) (h1.2 - h.2)) n hts (x_gi hcd) rfl rfl rfl (hK.2.1 _ hml) (hts _ (List.mem_cons_of_mem _ hcd.2.1)) hcd.2.2 hrr
      have hr := va_runSN (l := l) (e := e) (below := below) (meth := meth) (locs := locs) (cells := h.1.length - k0) (slots := h.2 - n0) (Ts := x_wM M) ⟨hx, hbt, hmx, hown, hts⟩ (hm l d) ⟨cb, hts _ (List.mem_cons_of_mem _ hin), trivial⟩ hp (g := F0 m pc ls (st.map (x_v d.1))) rfl hlen hL.1 hstk hroom hd hcs
      intro T hT X
      obtain ⟨v, st₀, t, T', L', -, X', hL', e1, -, hq1, st1⟩ := hr T hT X
      exact ⟨v, t, T', L', X', hL', e1, hq1, st1⟩
  · have k := hw p l e s m args below meth c H1 locs1 ls d k0 n0 hC hR1 hL (by omega) (by omega) hq1
    refine W.cs (cells' := h1.1.length - k0) (slots' := h1.2 - n0) (by omega) (by omega) ?_
    cases r <;> exact k
theorem xs_obj {idx a : Nat} {rest : List xV} (hd : decode M.2.1 pc = .ok (.invokespecial idx, 3)) (hl : Cond.methodLink M.1.cls idx objectInit ∈ x_ws ∧ Cond.instanceMethod objectInit ∈ x_ws ∧ Cond.code objectInit ⟨#[0xb1]⟩ 1 none ∈ x_ws) (hrr : 1 ≤ M.2.2.2.2.1 ∧ rest.length + 12 ≤ M.2.2.2.2.2) : x_S M pc L (.inr (some a) :: rest) h (pc + 3) L rest h := by
  intro r hf hb
  obtain ⟨hle, hw⟩ := hb
  refine ⟨hle, fun p l e s m args below meth c H locs ls d k0 n0 hC hR hL h1 h2 hq => ?_⟩
  have hC' := hC
  obtain ⟨hx, hbt, hml, hown, hts, hret, hlk, hnm, hK⟩ := hC'
  exact W.objInit hx hbt hown (hts _ (List.mem_cons_of_mem _ hl.1)) (hts _ (List.mem_cons_of_mem _ hl.2.1)) (hts _ (List.mem_cons_of_mem _ hl.2.2)) rfl (by rw [hml]; exact hL.1) rfl hd hrr.1 (by rw [x_sum]; show 2 * 0 + rest.length + 12 ≤ _; have := hrr.2; show _ ≤ M.2.2.2.2.2; omega) (hw p l e s m args below meth c H locs ls d k0 n0 hC hR hL h1 h2 hq)
end XD
/-! a method's contract out of its walk -/
theorem x_ent {b : Nat} : ∀ (as : List xV) (k i : Nat) (v : xV), as[i]? = some v → (k + i, x_v b v) ∈ lv_args k (as.map (x_v b)) := by
  intro as
  induction as with
  | nil => intro k i v h; simp at h
  | cons a as ih =>
    intro k i v h
    have hc : ¬ (x_v b a).category = 2 := by rw [x_cat]; decide
    simp only [List.map_cons, lv_args, if_neg hc]
    cases i with
    | zero => simp at h; subst h; exact List.mem_cons_self
    | succ i =>
      simp at h
      refine List.mem_cons_of_mem _ ?_
      have := ih (k + 1) i v h
      rw [show k + (i + 1) = k + 1 + i by omega]
      exact this
theorem x_sl (b : Nat) (as : List xV) : (lg_sl (as.map (x_v b))).length = as.length := by
  induction as with
  | nil => rfl
  | cons a as ih =>
    have hc : ¬ (x_v b a).category = 2 := by rw [x_cat]; decide
    unfold lg_sl at ih ⊢
    simp only [List.map_cons, List.flatMap_cons, if_neg hc, List.length_append, List.length_cons, List.length_nil] at ih ⊢
    omega
def x_en (M : xM) (as : List xV) : List (Option xV) := as.map some ++ List.replicate (M.2.2.1 - as.length) none
theorem xm {M : xM} {as : List xV} {h : xH} {r : Option xV} {hf : xH} (hpl : plainName M.1.cls = true) (hn : as.length ≤ M.2.2.1) (hb : x_B M 0 (x_en M as) [] h r hf) : x_M M as h r hf := by
  obtain ⟨hle, hw⟩ := hb
  refine ⟨hle, fun l d => ?_⟩
  refine Met.ofW (cc := M.2.1) (maxL := M.2.2.1) (ret := M.2.2.2.1) hpl rfl ?_
  intro p e s m args below meth c s₁ B hml hv
  obtain ⟨rfl, hR, hK⟩ := hv
  have hl0 := lv_entry (as.map (x_v d.1)) (n := M.2.2.1) (by rw [x_sl]; exact hn)
  rw [lg_entry_eq]
  generalize (lg_sl (as.map (x_v d.1)) ++ List.replicate (M.2.2.1 - (lg_sl (as.map (x_v d.1))).length) Slot.unset).toArray = ls at hl0 ⊢
  have hL : x_L d.1 ls M.2.2.1 (x_en M as) := by
    refine ⟨hl0.1, hl0.2.1, fun q hq => hl0.2.2 q ?_⟩
    obtain ⟨v, h1, h2⟩ := x_ll_mem.mp hq
    obtain ⟨j, w0⟩ := q
    dsimp only at h1 h2
    subst h2
    unfold x_en at h1
    by_cases hj : j < as.length
    · rw [List.getElem?_append_left (by simpa using hj), List.getElem?_map] at h1
      cases ha : as[j]? with
      | none => rw [ha] at h1; simp at h1
      | some u =>
        rw [ha] at h1
        simp at h1
        subst h1
        have := x_ent (b := d.1) as 0 j u ha
        rw [Nat.zero_add] at this
        exact this
    · rw [List.getElem?_append_right (by simpa using hj), List.getElem?_replicate] at h1
      split at h1 <;> simp at h1
  have k := hw p l e s m (as.map (x_v d.1)).toArray below meth c s.heap [] ls d h.1.length h.2 ⟨B.exec, B.bytes, hml, findClass_of_methodNamed B.named, atoms_spec (ws := x_wM M) B.pre, B.returns, B.notSynchronized, (name_of_methodNamed B.named B.method).1, hK⟩ hR hL (Nat.le_refl _) (Nat.le_refl _) (fun q hq => by cases hq)
  rw [Nat.sub_self, Nat.sub_self] at k
  exact k
def x_Mx (M : xM) (as : List xV) (h : xH) (Q : Option xV → xH → Prop) : Prop := ∃ r hf, x_M M as h r hf ∧ Q r hf
theorem xmx {M : xM} {as : List xV} {h : xH} {Q : Option xV → xH → Prop} (hpl : plainName M.1.cls = true) (hn : as.length ≤ M.2.2.1) (hb : x_X M 0 (x_en M as) [] h Q) : x_Mx M as h Q := by
  obtain ⟨r, hf, hb, hq⟩ := hb
  exact ⟨r, hf, xm hpl hn hb, hq⟩
