/-! rows made of rows; the library's copy -/
theorem push_old {h : xH} {c d : xC} {i n : Nat} (e : h.1[i]? = some c) : (h.1 ++ [d], n).1[i]? = some c := by
  show (h.1 ++ [d])[i]? = some c
  rw [List.getElem?_append_left (List.getElem?_eq_some_iff.mp e).1]; exact e
/-- a row that was made: how many cells and slots it took, what it holds -/
def nrow (P : Nat → Prop) (C S : Nat) (h : xH) (l : List Int) (r : Option xV) (hf : xH) : Prop := ∃ b, r = some (.inr (some b)) ∧ gr P C S h hf ∧ rwA hf b l
theorem set_push {l : List xC} {c d : xC} : (l ++ [c]).set l.length d = l ++ [d] := by simp
theorem mk_row {h : xH} {a : Nat} {l l' pre post : List Int} {s f : Nat} {A : List Int} (hi : irL l) (hs : 23 ≤ s) (ha : 23 ≤ a) (hc : h.1[a]? = some (.inr (.inr (4, [.inr (some s), .inl (f : Int), .inl (l.length : Int)])))) (hd : h.1[s]? = some (.inl A)) (hA : A.length ≤ 81) (hf : f + l.length ≤ A.length) (hg : ∀ (i : Nat) (x : Int), l[i]? = some x → A[f + i]? = some x) (e : l = pre ++ (l' ++ post)) {n : Nat} {F Z : Int} (hF : F = (f : Int) + (pre.length : Int)) (hZ : Z = (l'.length : Int)) : rwA (h.1 ++ [.inr (.inr (4, [.inr (some s), .inl F, .inl Z]))], n) h.1.length l' := by
  have hlt := (List.getElem?_eq_some_iff.mp hc).1
  have hll : l.length = pre.length + l'.length + post.length := by rw [e]; simp; omega
  subst hF
  subst hZ
  refine ⟨by omega, fun z hz => hi z (by rw [e]; simp [hz]), s, f + pre.length, A, hs, ?_, push_old hd, hA, by omega, fun i x hx => ?_⟩
  · show (h.1 ++ [_])[h.1.length]? = _
    rw [push_at]
    simp
  · have hil := (List.getElem?_eq_some_iff.mp hx).1
    have := hg (pre.length + i) x (by rw [e, List.getElem?_append_right (by omega), List.getElem?_append_left (by omega)]; simpa using hx)
    rw [show f + pre.length + i = f + (pre.length + i) by omega]
    exact this
set_option maxHeartbeats 4000000 in
set_option maxRecDepth 100000 in
theorem ro_part {h : xH} {a : Nat} {l l' pre post : List Int} {p q : Int} (hr : rwA h a l) (e : l = pre ++ (l' ++ post)) (hp : p = (pre.length : Int)) (hq : q = (pre.length : Int) + (l'.length : Int)) : x_Mx mm_Ro_part [.inr (some a), .inl p, .inl q] h (nrow (fun _ => False) 1 3 h l') := by
  refine xmx rfl (nl rfl) ?_
  obtain ⟨ra, ri, s, f, A, rs, rc, rd, rl, rf, rg⟩ := hr
  have rc0 := rc
  have rd0 := rd
  have hll : l.length = pre.length + l'.length + post.length := by rw [e]; simp; omega
  show x_X _ 0 [some (.inr (some a)), some (.inl p), some (.inl q)] [] _ _
  refine xx (xs_new dm_Ro_part_0 ln_Ro_10) ?_
  obtain ⟨h1, hh1⟩ : ∃ x : xH, x = (h.1 ++ [.inr (.inr (4, [.inr none, .inl 0, .inl 0]))], h.2 + 3) := ⟨_, rfl⟩
  show x_X _ 3 [some (.inr (some a)), some (.inl p), some (.inl q)] [.inr (some h.1.length)] (h.1 ++ [.inr (.inr (4, [.inr none, .inl 0, .inl 0]))], h.2 + 3) _
  rw [← hh1]
  have nw : h1.1[h.1.length]? = some (.inr (.inr (4, [.inr none, .inl 0, .inl 0]))) := by rw [hh1]; exact push_at
  have rc : h1.1[a]? = some (.inr (.inr (4, [.inr (some s), .inl (f : Int), .inl (l.length : Int)]))) := by rw [hh1]; exact push_old rc
  have rd : h1.1[s]? = some (.inl A) := by rw [hh1]; exact push_old rd
  refine xx (xs_dup dm_Ro_part_3) ?_
  refine xx (xs_aload_n dm_Ro_part_4 rfl) ?_
  refine xx (xs_getf dm_Ro_part_5 lf_Ro_9 rc rfl) ?_
  refine xx (xs_aload_n dm_Ro_part_8 rfl) ?_
  refine xx (xs_getf dm_Ro_part_9 lf_Ro_15 rc rfl) ?_
  refine xx (xs_iload_n dm_Ro_part_12 rfl) ?_
  refine xx (xs_iadd dm_Ro_part_13) ?_
  refine xx (xs_aload_n dm_Ro_part_14 rfl) ?_
  refine xx (xs_getf dm_Ro_part_15 lf_Ro_15 rc rfl) ?_
  refine xx (xs_iload_n dm_Ro_part_18 rfl) ?_
  refine xx (xs_iadd dm_Ro_part_19) ?_
  refine xcI (as := [.inr (some s), .inl ((f : Int) + p), .inl ((f : Int) + q)]) (rest := [.inr (some h.1.length)]) dm_Ro_part_20 lc_Ro_init lm_Ro_22 li_Ro_init (nr rfl rfl) rfl rfl (nl rfl) (ro_init nw rd (by omega) (by unfold ir; omega) (by unfold ir; omega) ⟨by omega, by omega, by omega⟩) ?_
  rintro _ _ rfl
  show x_X _ 23 [some (.inr (some a)), some (.inl p), some (.inl q)] [.inr (some h.1.length)] (h1.1.set h.1.length (.inr (.inr (4, [.inr (some s), .inl (((f : Int) + p)), .inl ((((f : Int) + q)) - (((f : Int) + p)))]))), h1.2) _
  rw [show (h1.1.set h.1.length (.inr (.inr (4, [.inr (some s), .inl (((f : Int) + p)), .inl ((((f : Int) + q)) - (((f : Int) + p)))]))), h1.2) = ((h.1 ++ [.inr (.inr (4, [.inr (some s), .inl (((f : Int) + p)), .inl ((((f : Int) + q)) - (((f : Int) + p)))]))], h.2 + 3) : xH) by rw [hh1]; simp]
  exact ⟨_, _, xb_a dm_Ro_part_23 rfl (Or.inl ⟨_, rfl⟩), ⟨_, rfl, gr_push _, mk_row ri rs ra rc0 rd0 rl rf rg e (by omega) (by omega)⟩⟩
set_option maxHeartbeats 4000000 in
set_option maxRecDepth 100000 in
theorem ro_typeAt {h : xH} {a : Nat} {l c pre post : List Int} {p : Int} (hr : rwA h a l) (e : l = pre ++ (c ++ post)) (hc : isTy c) (hp : p = (pre.length : Int)) : x_Mx mm_Ro_typeAt [.inr (some a), .inl p] h (nrow (fun _ => False) 1 3 h c) := by
  refine xmx rfl (nl rfl) ?_
  have hr0 := hr
  obtain ⟨ra, ri, s, f, A, rs, rc, rd, rl, rf, rg⟩ := hr
  have rc0 := rc
  have rd0 := rd
  have hll : l.length = pre.length + c.length + post.length := by rw [e]; simp; omega
  show x_X _ 0 [some (.inr (some a)), some (.inl p)] [] _ _
  refine xx (xs_new dm_Ro_typeAt_0 ln_Ro_10) ?_
  obtain ⟨h1, hh1⟩ : ∃ x : xH, x = (h.1 ++ [.inr (.inr (4, [.inr none, .inl 0, .inl 0]))], h.2 + 3) := ⟨_, rfl⟩
  show x_X _ 3 [some (.inr (some a)), some (.inl p)] [.inr (some h.1.length)] (h.1 ++ [.inr (.inr (4, [.inr none, .inl 0, .inl 0]))], h.2 + 3) _
  rw [← hh1]
  have nw : h1.1[h.1.length]? = some (.inr (.inr (4, [.inr none, .inl 0, .inl 0]))) := by rw [hh1]; exact push_at
  have rc : h1.1[a]? = some (.inr (.inr (4, [.inr (some s), .inl (f : Int), .inl (l.length : Int)]))) := by rw [hh1]; exact push_old rc
  have rd : h1.1[s]? = some (.inl A) := by rw [hh1]; exact push_old rd
  have hr' : rwA h1 a l := rwA_lo hr0 (hh1 ▸ gr_push (fun _ => False)) (fun _ _ => id)
  have hts : tyS (l.drop pre.length) 1 = some post := by rw [e, List.drop_left, tyS_ty hc, tyS_0]
  refine xx (xs_dup dm_Ro_typeAt_3) ?_
  refine xx (xs_aload_n dm_Ro_typeAt_4 rfl) ?_
  refine xx (xs_getf dm_Ro_typeAt_5 lf_Ro_9 rc rfl) ?_
  refine xx (xs_aload_n dm_Ro_typeAt_8 rfl) ?_
  refine xx (xs_getf dm_Ro_typeAt_9 lf_Ro_15 rc rfl) ?_
  refine xx (xs_iload_n dm_Ro_typeAt_12 rfl) ?_
  refine xx (xs_iadd dm_Ro_typeAt_13) ?_
  refine xx (xs_aload_n dm_Ro_typeAt_14 rfl) ?_
  refine xx (xs_getf dm_Ro_typeAt_15 lf_Ro_15 rc rfl) ?_
  refine xx (xs_aload_n dm_Ro_typeAt_18 rfl) ?_
  refine xx (xs_iload_n dm_Ro_typeAt_19 rfl) ?_
  refine xcV (as := [.inl p]) (rest := [.inl (f : Int), .inl ((f : Int) + p), .inr (some s), .inr (some h.1.length), .inr (some h.1.length)]) dm_Ro_typeAt_20 lc_Ro_typeEnd lm_Ro_32 li_Ro_typeEnd (nr rfl rfl) rfl rfl rc rfl (nl rfl) (ro_typeEnd (k := pre.length) hr' hp (by omega) hts) ?_
  rintro _ hx9 ⟨rfl, hhx9⟩
  have hhx9 := hhx9.symm
  subst hhx9
  show x_X _ 23 [some (.inr (some a)), some (.inl p)] [.inl ((l.length : Int) - (post.length : Int)), .inl (f : Int), .inl ((f : Int) + p), .inr (some s), .inr (some h.1.length), .inr (some h.1.length)] _ _
  refine xx (xs_iadd dm_Ro_typeAt_23) ?_
  refine xcI (as := [.inr (some s), .inl ((f : Int) + p), .inl ((f : Int) + ((l.length : Int) - (post.length : Int)))]) (rest := [.inr (some h.1.length)]) dm_Ro_typeAt_24 lc_Ro_init lm_Ro_22 li_Ro_init (nr rfl rfl) rfl rfl (nl rfl) (ro_init nw rd (by omega) (by unfold ir; omega) (by unfold ir; omega) ⟨by omega, by omega, by omega⟩) ?_
  rintro _ _ rfl
  show x_X _ 27 [some (.inr (some a)), some (.inl p)] [.inr (some h.1.length)] (h1.1.set h.1.length (.inr (.inr (4, [.inr (some s), .inl (((f : Int) + p)), .inl ((((f : Int) + ((l.length : Int) - (post.length : Int)))) - (((f : Int) + p)))]))), h1.2) _
  rw [show (h1.1.set h.1.length (.inr (.inr (4, [.inr (some s), .inl (((f : Int) + p)), .inl ((((f : Int) + ((l.length : Int) - (post.length : Int)))) - (((f : Int) + p)))]))), h1.2) = ((h.1 ++ [.inr (.inr (4, [.inr (some s), .inl (((f : Int) + p)), .inl ((((f : Int) + ((l.length : Int) - (post.length : Int)))) - (((f : Int) + p)))]))], h.2 + 3) : xH) by rw [hh1]; simp]
  exact ⟨_, _, xb_a dm_Ro_typeAt_27 rfl (Or.inl ⟨_, rfl⟩), ⟨_, rfl, gr_push _, mk_row ri rs ra rc0 rd0 rl rf rg e (by omega) (by omega)⟩⟩
set_option maxHeartbeats 4000000 in
set_option maxRecDepth 100000 in
theorem ro_functionArgument {h : xH} {a : Nat} {l c post : List Int} (hr : rwA h a l) (e : l = 0 :: (c ++ post)) (hc : isTy c) : x_Mx mm_Ro_functionArgument [.inr (some a)] h (nrow (fun _ => False) 1 3 h c) := by
  refine xmx rfl (nl rfl) ?_
  have hr0 := hr
  obtain ⟨ra, ri, s, f, A, rs, rc, rd, rl, rf, rg⟩ := hr
  show x_X _ 0 [some (.inr (some a))] [] _ _
  refine xx (xs_aload_n dm_Ro_functionArgument_0 rfl) ?_
  refine xx (xs_iconst dm_Ro_functionArgument_1) ?_
  refine xcV (as := [.inl 1]) (rest := []) dm_Ro_functionArgument_2 lc_Ro_typeAt lm_Ro_35 li_Ro_typeAt (nr rfl rfl) rfl rfl rc rfl (nl rfl) (ro_typeAt (pre := [0]) hr0 (by rw [e]; rfl) hc rfl) ?_
  rintro _ h1 ⟨b, rfl, hg, hw⟩
  show x_X _ 5 [some (.inr (some a))] [.inr (some b)] _ _
  exact ⟨_, _, xb_a dm_Ro_functionArgument_5 rfl (Or.inl ⟨_, rfl⟩), ⟨b, rfl, hg, hw⟩⟩
set_option maxHeartbeats 4000000 in
set_option maxRecDepth 100000 in
theorem ro_functionResult {h : xH} {a : Nat} {l c post : List Int} (hr : rwA h a l) (e : l = 0 :: (c ++ post)) (hc : isTy c) : x_Mx mm_Ro_functionResult [.inr (some a)] h (nrow (fun _ => False) 1 3 h post) := by
  refine xmx rfl (nl rfl) ?_
  have hr0 := hr
  obtain ⟨ra, ri, s, f, A, rs, rc, rd, rl, rf, rg⟩ := hr
  have rc0 := rc
  have rd0 := rd
  have hll : l.length = 1 + c.length + post.length := by rw [e]; simp; omega
  show x_X _ 0 [some (.inr (some a))] [] _ _
  refine xx (xs_new dm_Ro_functionResult_0 ln_Ro_10) ?_
  obtain ⟨h1, hh1⟩ : ∃ x : xH, x = (h.1 ++ [.inr (.inr (4, [.inr none, .inl 0, .inl 0]))], h.2 + 3) := ⟨_, rfl⟩
  show x_X _ 3 [some (.inr (some a))] [.inr (some h.1.length)] (h.1 ++ [.inr (.inr (4, [.inr none, .inl 0, .inl 0]))], h.2 + 3) _
  rw [← hh1]
  have nw : h1.1[h.1.length]? = some (.inr (.inr (4, [.inr none, .inl 0, .inl 0]))) := by rw [hh1]; exact push_at
  have rc : h1.1[a]? = some (.inr (.inr (4, [.inr (some s), .inl (f : Int), .inl (l.length : Int)]))) := by rw [hh1]; exact push_old rc
  have rd : h1.1[s]? = some (.inl A) := by rw [hh1]; exact push_old rd
  have hr' : rwA h1 a l := rwA_lo hr0 (hh1 ▸ gr_push (fun _ => False)) (fun _ _ => id)
  have hts : tyS (l.drop 1) 1 = some post := by rw [e, show (0 :: (c ++ post)).drop 1 = c ++ post from rfl, tyS_ty hc, tyS_0]
  refine xx (xs_dup dm_Ro_functionResult_3) ?_
  refine xx (xs_aload_n dm_Ro_functionResult_4 rfl) ?_
  refine xx (xs_getf dm_Ro_functionResult_5 lf_Ro_9 rc rfl) ?_
  refine xx (xs_aload_n dm_Ro_functionResult_8 rfl) ?_
  refine xx (xs_getf dm_Ro_functionResult_9 lf_Ro_15 rc rfl) ?_
  refine xx (xs_aload_n dm_Ro_functionResult_12 rfl) ?_
  refine xx (xs_iconst dm_Ro_functionResult_13) ?_
  refine xcV (as := [.inl 1]) (rest := [.inl (f : Int), .inr (some s), .inr (some h.1.length), .inr (some h.1.length)]) dm_Ro_functionResult_14 lc_Ro_typeEnd lm_Ro_32 li_Ro_typeEnd (nr rfl rfl) rfl rfl rc rfl (nl rfl) (ro_typeEnd (k := 1) hr' rfl (by omega) hts) ?_
  rintro _ hx9 ⟨rfl, hhx9⟩
  have hhx9 := hhx9.symm
  subst hhx9
  show x_X _ 17 [some (.inr (some a))] [.inl ((l.length : Int) - (post.length : Int)), .inl (f : Int), .inr (some s), .inr (some h.1.length), .inr (some h.1.length)] _ _
  refine xx (xs_iadd dm_Ro_functionResult_17) ?_
  refine xx (xs_aload_n dm_Ro_functionResult_18 rfl) ?_
  refine xx (xs_getf dm_Ro_functionResult_19 lf_Ro_15 rc rfl) ?_
  refine xx (xs_aload_n dm_Ro_functionResult_22 rfl) ?_
  refine xx (xs_getf dm_Ro_functionResult_23 lf_Ro_19 rc rfl) ?_
  refine xx (xs_iadd dm_Ro_functionResult_26) ?_
  refine xcI (as := [.inr (some s), .inl ((f : Int) + ((l.length : Int) - (post.length : Int))), .inl ((f : Int) + (l.length : Int))]) (rest := [.inr (some h.1.length)]) dm_Ro_functionResult_27 lc_Ro_init lm_Ro_22 li_Ro_init (nr rfl rfl) rfl rfl (nl rfl) (ro_init nw rd (by omega) (by unfold ir; omega) (by unfold ir; omega) ⟨by omega, by omega, by omega⟩) ?_
  rintro _ _ rfl
  show x_X _ 30 [some (.inr (some a))] [.inr (some h.1.length)] (h1.1.set h.1.length (.inr (.inr (4, [.inr (some s), .inl (((f : Int) + ((l.length : Int) - (post.length : Int)))), .inl ((((f : Int) + (l.length : Int))) - (((f : Int) + ((l.length : Int) - (post.length : Int)))))]))), h1.2) _
  rw [show (h1.1.set h.1.length (.inr (.inr (4, [.inr (some s), .inl (((f : Int) + ((l.length : Int) - (post.length : Int)))), .inl ((((f : Int) + (l.length : Int))) - (((f : Int) + ((l.length : Int) - (post.length : Int)))))]))), h1.2) = ((h.1 ++ [.inr (.inr (4, [.inr (some s), .inl (((f : Int) + ((l.length : Int) - (post.length : Int)))), .inl ((((f : Int) + (l.length : Int))) - (((f : Int) + ((l.length : Int) - (post.length : Int)))))]))], h.2 + 3) : xH) by rw [hh1]; simp]
  exact ⟨_, _, xb_a dm_Ro_functionResult_30 rfl (Or.inl ⟨_, rfl⟩), ⟨_, rfl, gr_push _, mk_row (pre := 0 :: c) (post := []) ri rs ra rc0 rd0 rl rf rg (by rw [e]; simp) (by simp; omega) (by omega)⟩⟩
