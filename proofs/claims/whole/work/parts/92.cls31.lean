/-! the constructors -/
theorem kw_set {P R : List xC} {o o' : xC} : (P ++ (o :: R)).set P.length o' = P ++ (o' :: R) := by
  rw [List.set_append_right _ _ (Nat.le_refl _), Nat.sub_self]
  rfl
theorem kw_at {P R : List xC} {o : xC} : (P ++ (o :: R))[P.length]? = some o := by
  rw [List.getElem?_append_right (Nat.le_refl _), Nat.sub_self]
  rfl
set_option maxHeartbeats 4000000 in
set_option maxRecDepth 100000 in
theorem de_init {c0 c1 c2 : xC} {n : Nat} : x_Mx mm_De_init [.inr (some 3)] ([c0, c1, c2, .inr (.inr (0, [.inr none, .inl 0, .inl 0]))], n) (fun r hf => r = none ∧ hf = ([c0, c1, c2, .inr (.inr (0, [.inr (some 4), .inl 0, .inl 0])), .inl (List.replicate 40 0)], n + 40)) := by
  refine xmx rfl (nl rfl) ?_
  show x_X _ 0 [some (.inr (some 3))] [] ([c0, c1, c2, .inr (.inr (0, [.inr none, .inl 0, .inl 0]))], n + 0) _
  refine xx (xs_aload_n dm_De_init_0 rfl) ?_
  refine xx (xs_obj dm_De_init_1 lo_De_3 ⟨nl rfl, nl rfl⟩) ?_
  refine xx (xs_aload_n dm_De_init_4 rfl) ?_
  refine xx (xs_bipush dm_De_init_5 (by decide)) ?_
  refine xx (xs_newarr (idx := 0) dm_De_init_7 la_int (by decide) (by decide)) ?_
  show x_X _ 9 [some (.inr (some 3))] [.inr (some 4), .inr (some 3)] ([c0, c1, c2, .inr (.inr (0, [.inr none, .inl 0, .inl 0])), .inl (List.replicate 40 0)], n + 40) _
  refine xx (xs_putf dm_De_init_9 lp_De_9 (ci := 0) (fs := [.inr none, .inl 0, .inl 0]) rfl (nl rfl) (x_ft_a _ _)) ?_
  show x_X _ 12 [some (.inr (some 3))] [] ([c0, c1, c2, .inr (.inr (0, [.inr (some 4), .inl 0, .inl 0])), .inl (List.replicate 40 0)], n + 40) _
  exact ⟨_, _, xb_v dm_De_init_12 rfl, rfl, rfl⟩
set_option maxHeartbeats 4000000 in
set_option maxRecDepth 100000 in
theorem sc_init {c0 : xC} {n : Nat} : x_Mx mm_Sc_init [.inr (some 1)] ([c0, .inr (.inr (5, [.inr none, .inl 0, .inr none, .inr none]))], n) (fun r hf => r = none ∧ hf = ([c0, .inr (.inr (5, [.inr (some 2), .inl 0, .inr (some 3), .inr (some 5)])), .inl (List.replicate 81 0), .inr (.inr (0, [.inr (some 4), .inl 0, .inl 0])), .inl (List.replicate 40 0), .inr (.inl (0, List.replicate 40 none))], n + 164)) := by
  refine xmx rfl (nl rfl) ?_
  show x_X _ 0 [some (.inr (some 1))] [] ([c0, .inr (.inr (5, [.inr none, .inl 0, .inr none, .inr none]))], n + 0) _
  refine xx (xs_aload_n dm_Sc_init_0 rfl) ?_
  refine xx (xs_obj dm_Sc_init_1 lo_Sc_3 ⟨nl rfl, nl rfl⟩) ?_
  refine xx (xs_aload_n dm_Sc_init_4 rfl) ?_
  refine xx (xs_bipush dm_Sc_init_5 (by decide)) ?_
  refine xx (xs_newarr (idx := 0) dm_Sc_init_7 la_int (by decide) (by decide)) ?_
  show x_X _ 9 [some (.inr (some 1))] [.inr (some 2), .inr (some 1)] ([c0, .inr (.inr (5, [.inr none, .inl 0, .inr none, .inr none])), .inl (List.replicate 81 0)], n + 81) _
  refine xx (xs_putf dm_Sc_init_9 lp_Sc_9 (ci := 5) (fs := [.inr none, .inl 0, .inr none, .inr none]) rfl (nl rfl) (x_ft_a _ _)) ?_
  show x_X _ 12 [some (.inr (some 1))] [] ([c0, .inr (.inr (5, [.inr (some 2), .inl 0, .inr none, .inr none])), .inl (List.replicate 81 0)], n + 81) _
  refine xx (xs_aload_n dm_Sc_init_12 rfl) ?_
  refine xx (xs_new dm_Sc_init_13 ln_Sc_15) ?_
  show x_X _ 16 [some (.inr (some 1))] [.inr (some 3), .inr (some 1)] ([c0, .inr (.inr (5, [.inr (some 2), .inl 0, .inr none, .inr none])), .inl (List.replicate 81 0), .inr (.inr (0, [.inr none, .inl 0, .inl 0]))], n + 84) _
  refine xx (xs_dup dm_Sc_init_16) ?_
  refine xcI (as := []) (rest := [.inr (some 3), .inr (some 1)]) dm_Sc_init_17 lc_De_init lm_Sc_17 li_De_init (nr rfl rfl) rfl rfl (nl rfl) (x_Mq de_init (fun r hf e => ⟨e.1, e.2⟩)) ?_
  rintro _ hx9 hh9
  subst hh9
  show x_X _ 20 [some (.inr (some 1))] [.inr (some 3), .inr (some 1)] ([c0, .inr (.inr (5, [.inr (some 2), .inl 0, .inr none, .inr none])), .inl (List.replicate 81 0), .inr (.inr (0, [.inr (some 4), .inl 0, .inl 0])), .inl (List.replicate 40 0)], n + 124) _
  refine xx (xs_putf dm_Sc_init_20 lp_Sc_18 (ci := 5) (fs := [.inr (some 2), .inl 0, .inr none, .inr none]) rfl (nl rfl) (x_ft_o _ _)) ?_
  show x_X _ 23 [some (.inr (some 1))] [] ([c0, .inr (.inr (5, [.inr (some 2), .inl 0, .inr (some 3), .inr none])), .inl (List.replicate 81 0), .inr (.inr (0, [.inr (some 4), .inl 0, .inl 0])), .inl (List.replicate 40 0)], n + 124) _
  refine xx (xs_aload_n dm_Sc_init_23 rfl) ?_
  refine xx (xs_bipush dm_Sc_init_24 (by decide)) ?_
  refine xx (xs_anew dm_Sc_init_26 la_Sc_22 (by decide) (by decide)) ?_
  show x_X _ 29 [some (.inr (some 1))] [.inr (some 5), .inr (some 1)] ([c0, .inr (.inr (5, [.inr (some 2), .inl 0, .inr (some 3), .inr none])), .inl (List.replicate 81 0), .inr (.inr (0, [.inr (some 4), .inl 0, .inl 0])), .inl (List.replicate 40 0), .inr (.inl (0, List.replicate 40 none))], n + 164) _
  refine xx (xs_putf dm_Sc_init_29 lp_Sc_24 (ci := 5) (fs := [.inr (some 2), .inl 0, .inr (some 3), .inr none]) rfl (nl rfl) (x_ft_a _ _)) ?_
  show x_X _ 32 [some (.inr (some 1))] [] ([c0, .inr (.inr (5, [.inr (some 2), .inl 0, .inr (some 3), .inr (some 5)])), .inl (List.replicate 81 0), .inr (.inr (0, [.inr (some 4), .inl 0, .inl 0])), .inl (List.replicate 40 0), .inr (.inl (0, List.replicate 40 none))], n + 164) _
  exact ⟨_, _, xb_v dm_Sc_init_32 rfl, rfl, rfl⟩
def mS0 : mS := ([], fun _ => none, [], [], [], 0)
def cM0 (h : xH) : Prop := cS h 0 0 ∧ cP h ∧ cK h [] ∧ cDi h (fun _ => none) ∧ cL h 8 9 5 [] ∧ cL h 10 11 5 [] ∧ cC h [] ∧ hyA h 14 []
set_option maxHeartbeats 4000000 in
set_option maxRecDepth 100000 in
theorem ma_init {n : Nat} : x_Mx mm_Ma_init [.inr (some 0)] ([.inr (.inr (7, [.inr none, .inr none, .inr none, .inr none, .inr none, .inr none, .inr none, .inl 0, .inl 0]))], n) (fun r hf => r = none ∧ cM0 hf ∧ hf.1.length = 16 ∧ hf.2 ≤ n + 300) := by
  refine xmx rfl (nl rfl) ?_
  show x_X _ 0 [some (.inr (some 0))] [] ([.inr (.inr (7, [.inr none, .inr none, .inr none, .inr none, .inr none, .inr none, .inr none, .inl 0, .inl 0]))], n + 0) _
  refine xx (xs_aload_n dm_Ma_init_0 rfl) ?_
  refine xx (xs_obj dm_Ma_init_1 lo_Ma_1 ⟨nl rfl, nl rfl⟩) ?_
  refine xx (xs_aload_n dm_Ma_init_4 rfl) ?_
  refine xx (xs_new dm_Ma_init_5 ln_Ma_7) ?_
  show x_X _ 8 [some (.inr (some 0))] [.inr (some 1), .inr (some 0)] ([.inr (.inr (7, [.inr none, .inr none, .inr none, .inr none, .inr none, .inr none, .inr none, .inl 0, .inl 0])), .inr (.inr (5, [.inr none, .inl 0, .inr none, .inr none]))], n + 4) _
  refine xx (xs_dup dm_Ma_init_8) ?_
  refine xcI (as := []) (rest := [.inr (some 1), .inr (some 0)]) dm_Ma_init_9 lc_Sc_init lm_Ma_9 li_Sc_init (nr rfl rfl) rfl rfl (nl rfl) (x_Mq sc_init (fun r hf e => ⟨e.1, e.2⟩)) ?_
  rintro _ hx9 hh9
  subst hh9
  show x_X _ 12 [some (.inr (some 0))] [.inr (some 1), .inr (some 0)] ([.inr (.inr (7, [.inr none, .inr none, .inr none, .inr none, .inr none, .inr none, .inr none, .inl 0, .inl 0])), .inr (.inr (5, [.inr (some 2), .inl 0, .inr (some 3), .inr (some 5)])), .inl (List.replicate 81 0), .inr (.inr (0, [.inr (some 4), .inl 0, .inl 0])), .inl (List.replicate 40 0), .inr (.inl (0, List.replicate 40 none))], n + 168) _
  refine xx (xs_putf dm_Ma_init_12 lp_Ma_10 (ci := 7) (fs := [.inr none, .inr none, .inr none, .inr none, .inr none, .inr none, .inr none, .inl 0, .inl 0]) rfl (nl rfl) (x_ft_o _ _)) ?_
  show x_X _ 15 [some (.inr (some 0))] [] ([.inr (.inr (7, [.inr (some 1), .inr none, .inr none, .inr none, .inr none, .inr none, .inr none, .inl 0, .inl 0])), .inr (.inr (5, [.inr (some 2), .inl 0, .inr (some 3), .inr (some 5)])), .inl (List.replicate 81 0), .inr (.inr (0, [.inr (some 4), .inl 0, .inl 0])), .inl (List.replicate 40 0), .inr (.inl (0, List.replicate 40 none))], n + 168) _
  refine xx (xs_aload_n dm_Ma_init_15 rfl) ?_
  refine xx (xs_new dm_Ma_init_16 ln_Ma_16) ?_
  show x_X _ 19 [some (.inr (some 0))] [.inr (some 6), .inr (some 0)] ([.inr (.inr (7, [.inr (some 1), .inr none, .inr none, .inr none, .inr none, .inr none, .inr none, .inl 0, .inl 0])), .inr (.inr (5, [.inr (some 2), .inl 0, .inr (some 3), .inr (some 5)])), .inl (List.replicate 81 0), .inr (.inr (0, [.inr (some 4), .inl 0, .inl 0])), .inl (List.replicate 40 0), .inr (.inl (0, List.replicate 40 none)), .inr (.inr (6, [.inr none, .inl 0]))], n + 170) _
  refine xx (xs_dup dm_Ma_init_19) ?_
  refine xx (xs_bipush dm_Ma_init_20 (by decide)) ?_
  refine xcI (as := [.inl 12]) (rest := [.inr (some 6), .inr (some 0)]) dm_Ma_init_22 lc_Sh_init lm_Ma_18 li_Sh_init (nr rfl rfl) rfl rfl (nl rfl) (x_Mq (sh_init (N := 12) rfl rfl (by decide)) (fun r hf e => ⟨e.1, e.2⟩)) ?_
  rintro _ hx9 hh9
  subst hh9
  show x_X _ 25 [some (.inr (some 0))] [.inr (some 6), .inr (some 0)] ([.inr (.inr (7, [.inr (some 1), .inr none, .inr none, .inr none, .inr none, .inr none, .inr none, .inl 0, .inl 0])), .inr (.inr (5, [.inr (some 2), .inl 0, .inr (some 3), .inr (some 5)])), .inl (List.replicate 81 0), .inr (.inr (0, [.inr (some 4), .inl 0, .inl 0])), .inl (List.replicate 40 0), .inr (.inl (0, List.replicate 40 none)), .inr (.inr (6, [.inr (some 7), .inl 0])), .inr (.inl (1, List.replicate 12 none))], n + 182) _
  refine xx (xs_putf dm_Ma_init_25 lp_Ma_21 (ci := 7) (fs := [.inr (some 1), .inr none, .inr none, .inr none, .inr none, .inr none, .inr none, .inl 0, .inl 0]) rfl (nl rfl) (x_ft_o _ _)) ?_
  show x_X _ 28 [some (.inr (some 0))] [] ([.inr (.inr (7, [.inr (some 1), .inr (some 6), .inr none, .inr none, .inr none, .inr none, .inr none, .inl 0, .inl 0])), .inr (.inr (5, [.inr (some 2), .inl 0, .inr (some 3), .inr (some 5)])), .inl (List.replicate 81 0), .inr (.inr (0, [.inr (some 4), .inl 0, .inl 0])), .inl (List.replicate 40 0), .inr (.inl (0, List.replicate 40 none)), .inr (.inr (6, [.inr (some 7), .inl 0])), .inr (.inl (1, List.replicate 12 none))], n + 182) _
  refine xx (xs_aload_n dm_Ma_init_28 rfl) ?_
  refine xx (xs_new dm_Ma_init_29 ln_Ma_16) ?_
  show x_X _ 32 [some (.inr (some 0))] [.inr (some 8), .inr (some 0)] ([.inr (.inr (7, [.inr (some 1), .inr (some 6), .inr none, .inr none, .inr none, .inr none, .inr none, .inl 0, .inl 0])), .inr (.inr (5, [.inr (some 2), .inl 0, .inr (some 3), .inr (some 5)])), .inl (List.replicate 81 0), .inr (.inr (0, [.inr (some 4), .inl 0, .inl 0])), .inl (List.replicate 40 0), .inr (.inl (0, List.replicate 40 none)), .inr (.inr (6, [.inr (some 7), .inl 0])), .inr (.inl (1, List.replicate 12 none)), .inr (.inr (6, [.inr none, .inl 0]))], n + 184) _
  refine xx (xs_dup dm_Ma_init_32) ?_
  refine xx (xs_iconst dm_Ma_init_33) ?_
  refine xcI (as := [.inl 5]) (rest := [.inr (some 8), .inr (some 0)]) dm_Ma_init_34 lc_Sh_init lm_Ma_18 li_Sh_init (nr rfl rfl) rfl rfl (nl rfl) (x_Mq (sh_init (N := 5) rfl rfl (by decide)) (fun r hf e => ⟨e.1, e.2⟩)) ?_
  rintro _ hx9 hh9
  subst hh9
  show x_X _ 37 [some (.inr (some 0))] [.inr (some 8), .inr (some 0)] ([.inr (.inr (7, [.inr (some 1), .inr (some 6), .inr none, .inr none, .inr none, .inr none, .inr none, .inl 0, .inl 0])), .inr (.inr (5, [.inr (some 2), .inl 0, .inr (some 3), .inr (some 5)])), .inl (List.replicate 81 0), .inr (.inr (0, [.inr (some 4), .inl 0, .inl 0])), .inl (List.replicate 40 0), .inr (.inl (0, List.replicate 40 none)), .inr (.inr (6, [.inr (some 7), .inl 0])), .inr (.inl (1, List.replicate 12 none)), .inr (.inr (6, [.inr (some 9), .inl 0])), .inr (.inl (1, List.replicate 5 none))], n + 189) _
  refine xx (xs_putf dm_Ma_init_37 lp_Ma_25 (ci := 7) (fs := [.inr (some 1), .inr (some 6), .inr none, .inr none, .inr none, .inr none, .inr none, .inl 0, .inl 0]) rfl (nl rfl) (x_ft_o _ _)) ?_
  show x_X _ 40 [some (.inr (some 0))] [] ([.inr (.inr (7, [.inr (some 1), .inr (some 6), .inr (some 8), .inr none, .inr none, .inr none, .inr none, .inl 0, .inl 0])), .inr (.inr (5, [.inr (some 2), .inl 0, .inr (some 3), .inr (some 5)])), .inl (List.replicate 81 0), .inr (.inr (0, [.inr (some 4), .inl 0, .inl 0])), .inl (List.replicate 40 0), .inr (.inl (0, List.replicate 40 none)), .inr (.inr (6, [.inr (some 7), .inl 0])), .inr (.inl (1, List.replicate 12 none)), .inr (.inr (6, [.inr (some 9), .inl 0])), .inr (.inl (1, List.replicate 5 none))], n + 189) _
  refine xx (xs_aload_n dm_Ma_init_40 rfl) ?_
  refine xx (xs_new dm_Ma_init_41 ln_Ma_16) ?_
  show x_X _ 44 [some (.inr (some 0))] [.inr (some 10), .inr (some 0)] ([.inr (.inr (7, [.inr (some 1), .inr (some 6), .inr (some 8), .inr none, .inr none, .inr none, .inr none, .inl 0, .inl 0])), .inr (.inr (5, [.inr (some 2), .inl 0, .inr (some 3), .inr (some 5)])), .inl (List.replicate 81 0), .inr (.inr (0, [.inr (some 4), .inl 0, .inl 0])), .inl (List.replicate 40 0), .inr (.inl (0, List.replicate 40 none)), .inr (.inr (6, [.inr (some 7), .inl 0])), .inr (.inl (1, List.replicate 12 none)), .inr (.inr (6, [.inr (some 9), .inl 0])), .inr (.inl (1, List.replicate 5 none)), .inr (.inr (6, [.inr none, .inl 0]))], n + 191) _
  refine xx (xs_dup dm_Ma_init_44) ?_
  refine xx (xs_iconst dm_Ma_init_45) ?_
  refine xcI (as := [.inl 5]) (rest := [.inr (some 10), .inr (some 0)]) dm_Ma_init_46 lc_Sh_init lm_Ma_18 li_Sh_init (nr rfl rfl) rfl rfl (nl rfl) (x_Mq (sh_init (N := 5) rfl rfl (by decide)) (fun r hf e => ⟨e.1, e.2⟩)) ?_
  rintro _ hx9 hh9
  subst hh9
  show x_X _ 49 [some (.inr (some 0))] [.inr (some 10), .inr (some 0)] ([.inr (.inr (7, [.inr (some 1), .inr (some 6), .inr (some 8), .inr none, .inr none, .inr none, .inr none, .inl 0, .inl 0])), .inr (.inr (5, [.inr (some 2), .inl 0, .inr (some 3), .inr (some 5)])), .inl (List.replicate 81 0), .inr (.inr (0, [.inr (some 4), .inl 0, .inl 0])), .inl (List.replicate 40 0), .inr (.inl (0, List.replicate 40 none)), .inr (.inr (6, [.inr (some 7), .inl 0])), .inr (.inl (1, List.replicate 12 none)), .inr (.inr (6, [.inr (some 9), .inl 0])), .inr (.inl (1, List.replicate 5 none)), .inr (.inr (6, [.inr (some 11), .inl 0])), .inr (.inl (1, List.replicate 5 none))], n + 196) _
  refine xx (xs_putf dm_Ma_init_49 lp_Ma_28 (ci := 7) (fs := [.inr (some 1), .inr (some 6), .inr (some 8), .inr none, .inr none, .inr none, .inr none, .inl 0, .inl 0]) rfl (nl rfl) (x_ft_o _ _)) ?_
  show x_X _ 52 [some (.inr (some 0))] [] ([.inr (.inr (7, [.inr (some 1), .inr (some 6), .inr (some 8), .inr (some 10), .inr none, .inr none, .inr none, .inl 0, .inl 0])), .inr (.inr (5, [.inr (some 2), .inl 0, .inr (some 3), .inr (some 5)])), .inl (List.replicate 81 0), .inr (.inr (0, [.inr (some 4), .inl 0, .inl 0])), .inl (List.replicate 40 0), .inr (.inl (0, List.replicate 40 none)), .inr (.inr (6, [.inr (some 7), .inl 0])), .inr (.inl (1, List.replicate 12 none)), .inr (.inr (6, [.inr (some 9), .inl 0])), .inr (.inl (1, List.replicate 5 none)), .inr (.inr (6, [.inr (some 11), .inl 0])), .inr (.inl (1, List.replicate 5 none))], n + 196) _
  refine xx (xs_aload_n dm_Ma_init_52 rfl) ?_
  refine xx (xs_bipush dm_Ma_init_53 (by decide)) ?_
  refine xx (xs_anew dm_Ma_init_55 la_Ma_31 (by decide) (by decide)) ?_
  show x_X _ 58 [some (.inr (some 0))] [.inr (some 12), .inr (some 0)] ([.inr (.inr (7, [.inr (some 1), .inr (some 6), .inr (some 8), .inr (some 10), .inr none, .inr none, .inr none, .inl 0, .inl 0])), .inr (.inr (5, [.inr (some 2), .inl 0, .inr (some 3), .inr (some 5)])), .inl (List.replicate 81 0), .inr (.inr (0, [.inr (some 4), .inl 0, .inl 0])), .inl (List.replicate 40 0), .inr (.inl (0, List.replicate 40 none)), .inr (.inr (6, [.inr (some 7), .inl 0])), .inr (.inl (1, List.replicate 12 none)), .inr (.inr (6, [.inr (some 9), .inl 0])), .inr (.inl (1, List.replicate 5 none)), .inr (.inr (6, [.inr (some 11), .inl 0])), .inr (.inl (1, List.replicate 5 none)), .inr (.inl (1, List.replicate 6 none))], n + 202) _
  refine xx (xs_putf dm_Ma_init_58 lp_Ma_33 (ci := 7) (fs := [.inr (some 1), .inr (some 6), .inr (some 8), .inr (some 10), .inr none, .inr none, .inr none, .inl 0, .inl 0]) rfl (nl rfl) (x_ft_a _ _)) ?_
  show x_X _ 61 [some (.inr (some 0))] [] ([.inr (.inr (7, [.inr (some 1), .inr (some 6), .inr (some 8), .inr (some 10), .inr (some 12), .inr none, .inr none, .inl 0, .inl 0])), .inr (.inr (5, [.inr (some 2), .inl 0, .inr (some 3), .inr (some 5)])), .inl (List.replicate 81 0), .inr (.inr (0, [.inr (some 4), .inl 0, .inl 0])), .inl (List.replicate 40 0), .inr (.inl (0, List.replicate 40 none)), .inr (.inr (6, [.inr (some 7), .inl 0])), .inr (.inl (1, List.replicate 12 none)), .inr (.inr (6, [.inr (some 9), .inl 0])), .inr (.inl (1, List.replicate 5 none)), .inr (.inr (6, [.inr (some 11), .inl 0])), .inr (.inl (1, List.replicate 5 none)), .inr (.inl (1, List.replicate 6 none))], n + 202) _
  refine xx (xs_aload_n dm_Ma_init_61 rfl) ?_
  refine xx (xs_bipush dm_Ma_init_62 (by decide)) ?_
  refine xx (xs_anew dm_Ma_init_64 la_Ma_37 (by decide) (by decide)) ?_
  show x_X _ 67 [some (.inr (some 0))] [.inr (some 13), .inr (some 0)] ([.inr (.inr (7, [.inr (some 1), .inr (some 6), .inr (some 8), .inr (some 10), .inr (some 12), .inr none, .inr none, .inl 0, .inl 0])), .inr (.inr (5, [.inr (some 2), .inl 0, .inr (some 3), .inr (some 5)])), .inl (List.replicate 81 0), .inr (.inr (0, [.inr (some 4), .inl 0, .inl 0])), .inl (List.replicate 40 0), .inr (.inl (0, List.replicate 40 none)), .inr (.inr (6, [.inr (some 7), .inl 0])), .inr (.inl (1, List.replicate 12 none)), .inr (.inr (6, [.inr (some 9), .inl 0])), .inr (.inl (1, List.replicate 5 none)), .inr (.inr (6, [.inr (some 11), .inl 0])), .inr (.inl (1, List.replicate 5 none)), .inr (.inl (1, List.replicate 6 none)), .inr (.inl (0, List.replicate 6 none))], n + 208) _
  refine xx (xs_putf dm_Ma_init_67 lp_Ma_39 (ci := 7) (fs := [.inr (some 1), .inr (some 6), .inr (some 8), .inr (some 10), .inr (some 12), .inr none, .inr none, .inl 0, .inl 0]) rfl (nl rfl) (x_ft_a _ _)) ?_
  show x_X _ 70 [some (.inr (some 0))] [] ([.inr (.inr (7, [.inr (some 1), .inr (some 6), .inr (some 8), .inr (some 10), .inr (some 12), .inr (some 13), .inr none, .inl 0, .inl 0])), .inr (.inr (5, [.inr (some 2), .inl 0, .inr (some 3), .inr (some 5)])), .inl (List.replicate 81 0), .inr (.inr (0, [.inr (some 4), .inl 0, .inl 0])), .inl (List.replicate 40 0), .inr (.inl (0, List.replicate 40 none)), .inr (.inr (6, [.inr (some 7), .inl 0])), .inr (.inl (1, List.replicate 12 none)), .inr (.inr (6, [.inr (some 9), .inl 0])), .inr (.inl (1, List.replicate 5 none)), .inr (.inr (6, [.inr (some 11), .inl 0])), .inr (.inl (1, List.replicate 5 none)), .inr (.inl (1, List.replicate 6 none)), .inr (.inl (0, List.replicate 6 none))], n + 208) _
  refine xx (xs_aload_n dm_Ma_init_70 rfl) ?_
  refine xx (xs_new dm_Ma_init_71 ln_Ma_43) ?_
  show x_X _ 74 [some (.inr (some 0))] [.inr (some 14), .inr (some 0)] ([.inr (.inr (7, [.inr (some 1), .inr (some 6), .inr (some 8), .inr (some 10), .inr (some 12), .inr (some 13), .inr none, .inl 0, .inl 0])), .inr (.inr (5, [.inr (some 2), .inl 0, .inr (some 3), .inr (some 5)])), .inl (List.replicate 81 0), .inr (.inr (0, [.inr (some 4), .inl 0, .inl 0])), .inl (List.replicate 40 0), .inr (.inl (0, List.replicate 40 none)), .inr (.inr (6, [.inr (some 7), .inl 0])), .inr (.inl (1, List.replicate 12 none)), .inr (.inr (6, [.inr (some 9), .inl 0])), .inr (.inl (1, List.replicate 5 none)), .inr (.inr (6, [.inr (some 11), .inl 0])), .inr (.inl (1, List.replicate 5 none)), .inr (.inl (1, List.replicate 6 none)), .inr (.inl (0, List.replicate 6 none)), .inr (.inr (2, [.inr none, .inl 0]))], n + 210) _
  refine xx (xs_dup dm_Ma_init_74) ?_
  obtain ⟨hq, ehq⟩ : ∃ hX : xH, hX = ([.inr (.inr (7, [.inr (some 1), .inr (some 6), .inr (some 8), .inr (some 10), .inr (some 12), .inr (some 13), .inr none, .inl 0, .inl 0])), .inr (.inr (5, [.inr (some 2), .inl 0, .inr (some 3), .inr (some 5)])), .inl (List.replicate 81 0), .inr (.inr (0, [.inr (some 4), .inl 0, .inl 0])), .inl (List.replicate 40 0), .inr (.inl (0, List.replicate 40 none)), .inr (.inr (6, [.inr (some 7), .inl 0])), .inr (.inl (1, List.replicate 12 none)), .inr (.inr (6, [.inr (some 9), .inl 0])), .inr (.inl (1, List.replicate 5 none)), .inr (.inr (6, [.inr (some 11), .inl 0])), .inr (.inl (1, List.replicate 5 none)), .inr (.inl (1, List.replicate 6 none)), .inr (.inl (0, List.replicate 6 none)), .inr (.inr (2, [.inr none, .inl 0]))], n + 210) := ⟨_, rfl⟩
  rw [← ehq]
  have k0 : hq.1[0]? = some (.inr (.inr (7, [.inr (some 1), .inr (some 6), .inr (some 8), .inr (some 10), .inr (some 12), .inr (some 13), .inr none, .inl 0, .inl 0]))) := by rw [ehq]; rfl
  have k1 : hq.1[1]? = some (.inr (.inr (5, [.inr (some 2), .inl 0, .inr (some 3), .inr (some 5)]))) := by rw [ehq]; rfl
  have k2 : hq.1[2]? = some (.inl (List.replicate 81 0)) := by rw [ehq]; rfl
  have k3 : hq.1[3]? = some (.inr (.inr (0, [.inr (some 4), .inl 0, .inl 0]))) := by rw [ehq]; rfl
  have k4 : hq.1[4]? = some (.inl (List.replicate 40 0)) := by rw [ehq]; rfl
  have k5 : hq.1[5]? = some (.inr (.inl (0, List.replicate 40 none))) := by rw [ehq]; rfl
  have k6 : hq.1[6]? = some (.inr (.inr (6, [.inr (some 7), .inl 0]))) := by rw [ehq]; rfl
  have k7 : hq.1[7]? = some (.inr (.inl (1, List.replicate 12 none))) := by rw [ehq]; rfl
  have k8 : hq.1[8]? = some (.inr (.inr (6, [.inr (some 9), .inl 0]))) := by rw [ehq]; rfl
  have k9 : hq.1[9]? = some (.inr (.inl (1, List.replicate 5 none))) := by rw [ehq]; rfl
  have k10 : hq.1[10]? = some (.inr (.inr (6, [.inr (some 11), .inl 0]))) := by rw [ehq]; rfl
  have k11 : hq.1[11]? = some (.inr (.inl (1, List.replicate 5 none))) := by rw [ehq]; rfl
  have k12 : hq.1[12]? = some (.inr (.inl (1, List.replicate 6 none))) := by rw [ehq]; rfl
  have k13 : hq.1[13]? = some (.inr (.inl (0, List.replicate 6 none))) := by rw [ehq]; rfl
  have k14 : hq.1[14]? = some (.inr (.inr (2, [.inr none, .inl 0]))) := by rw [ehq]; rfl
  have kl : hq.1.length = 15 := by rw [ehq]; rfl
  have kn : hq.2 = n + 210 := by rw [ehq]
  clear ehq
  refine xcI (as := []) (rest := [.inr (some 14), .inr (some 0)]) dm_Ma_init_75 lc_Hy_init lm_Ma_45 li_Hy_init (nr rfl rfl) rfl rfl (nl rfl) (x_Mq (hy_init k14) (fun r hf e => ⟨e.1, e.2⟩)) ?_
  rintro _ h1 ⟨F, g⟩
  rw [kl] at F
  have k0 := g.2 0 _ (by decide) k0
  have k1 := g.2 1 _ (by decide) k1
  have k2 := g.2 2 _ (by decide) k2
  have k3 := g.2 3 _ (by decide) k3
  have k4 := g.2 4 _ (by decide) k4
  have k5 := g.2 5 _ (by decide) k5
  have k6 := g.2 6 _ (by decide) k6
  have k7 := g.2 7 _ (by decide) k7
  have k8 := g.2 8 _ (by decide) k8
  have k9 := g.2 9 _ (by decide) k9
  have k10 := g.2 10 _ (by decide) k10
  have k11 := g.2 11 _ (by decide) k11
  have k12 := g.2 12 _ (by decide) k12
  have k13 := g.2 13 _ (by decide) k13
  show x_X _ 78 [some (.inr (some 0))] [.inr (some 14), .inr (some 0)] _ _
  refine xx (xs_putf dm_Ma_init_78 lp_Ma_46 k0 (nl rfl) (x_ft_o _ _)) ?_
  obtain ⟨h2, hh2⟩ : ∃ hX : xH, hX = (h1.1.set 0 (.inr (.inr (7, [.inr (some 1), .inr (some 6), .inr (some 8), .inr (some 10), .inr (some 12), .inr (some 13), .inr (some 14), .inl 0, .inl 0]))), h1.2) := ⟨_, rfl⟩
  show x_X _ 81 [some (.inr (some 0))] [] (h1.1.set 0 (.inr (.inr (7, [.inr (some 1), .inr (some 6), .inr (some 8), .inr (some 10), .inr (some 12), .inr (some 13), .inr (some 14), .inl 0, .inl 0]))), h1.2) _
  rw [← hh2]
  have k0_o := k0
  have k0 : h2.1[0]? = some (.inr (.inr (7, [.inr (some 1), .inr (some 6), .inr (some 8), .inr (some 10), .inr (some 12), .inr (some 13), .inr (some 14), .inl 0, .inl 0]))) := by rw [hh2]; exact set_at k0_o
  refine xx (xs_aload_n dm_Ma_init_81 rfl) ?_
  refine xx (xs_iconst dm_Ma_init_82) ?_
  refine xx (xs_putf dm_Ma_init_83 lp_Ma_50 k0 (nl rfl) (x_ft_i _)) ?_
  obtain ⟨h3, hh3⟩ : ∃ hX : xH, hX = (h2.1.set 0 (.inr (.inr (7, [.inr (some 1), .inr (some 6), .inr (some 8), .inr (some 10), .inr (some 12), .inr (some 13), .inr (some 14), .inl 0, .inl 0]))), h2.2) := ⟨_, rfl⟩
  show x_X _ 86 [some (.inr (some 0))] [] (h2.1.set 0 (.inr (.inr (7, [.inr (some 1), .inr (some 6), .inr (some 8), .inr (some 10), .inr (some 12), .inr (some 13), .inr (some 14), .inl 0, .inl 0]))), h2.2) _
  rw [← hh3]
  have k0_o := k0
  have k0 : h3.1[0]? = some (.inr (.inr (7, [.inr (some 1), .inr (some 6), .inr (some 8), .inr (some 10), .inr (some 12), .inr (some 13), .inr (some 14), .inl 0, .inl 0]))) := by rw [hh3]; exact set_at k0_o
  refine xx (xs_aload_n dm_Ma_init_86 rfl) ?_
  refine xx (xs_iconst dm_Ma_init_87) ?_
  refine xx (xs_putf dm_Ma_init_88 lp_Ma_54 k0 (nl rfl) (x_ft_i _)) ?_
  obtain ⟨h4, hh4⟩ : ∃ hX : xH, hX = (h3.1.set 0 (.inr (.inr (7, [.inr (some 1), .inr (some 6), .inr (some 8), .inr (some 10), .inr (some 12), .inr (some 13), .inr (some 14), .inl 0, .inl 0]))), h3.2) := ⟨_, rfl⟩
  show x_X _ 91 [some (.inr (some 0))] [] (h3.1.set 0 (.inr (.inr (7, [.inr (some 1), .inr (some 6), .inr (some 8), .inr (some 10), .inr (some 12), .inr (some 13), .inr (some 14), .inl 0, .inl 0]))), h3.2) _
  rw [← hh4]
  have k0_o := k0
  have k0 : h4.1[0]? = some (.inr (.inr (7, [.inr (some 1), .inr (some 6), .inr (some 8), .inr (some 10), .inr (some 12), .inr (some 13), .inr (some 14), .inl 0, .inl 0]))) := by rw [hh4]; exact set_at k0_o
  have g2 : gr (fun i => i = 0) 0 0 h1 h2 := by rw [hh2]; exact gr_set
  have g3 : gr (fun i => i = 0) 0 0 h2 h3 := by rw [hh3]; exact gr_set
  have g4 : gr (fun i => i = 0) 0 0 h3 h4 := by rw [hh4]; exact gr_set
  have gg : gr (fun i => i = 0) 0 0 h1 h4 := gr_tr (gr_tr g2 g3 (fun _ _ e => e) (Nat.le_refl _) (Nat.le_refl _)) g4 (fun _ _ e => e) (Nat.le_refl _) (Nat.le_refl _)
  have F14 := gg.2 14 _ (by decide) F.1
  have F15 := gg.2 15 _ (by decide) F.2.1
  have l16 := (List.getElem?_eq_some_iff.mp F15).1
  have gl := gg.1
  have gl1 := g.1
  have k1 := gg.2 1 _ (by decide) k1
  have k2 := gg.2 2 _ (by decide) k2
  have k3 := gg.2 3 _ (by decide) k3
  have k4 := gg.2 4 _ (by decide) k4
  have k5 := gg.2 5 _ (by decide) k5
  have k6 := gg.2 6 _ (by decide) k6
  have k7 := gg.2 7 _ (by decide) k7
  have k8 := gg.2 8 _ (by decide) k8
  have k9 := gg.2 9 _ (by decide) k9
  have k10 := gg.2 10 _ (by decide) k10
  have k11 := gg.2 11 _ (by decide) k11
  have k12 := gg.2 12 _ (by decide) k12
  have k13 := gg.2 13 _ (by decide) k13
  exact ⟨_, _, xb_v dm_Ma_init_91 rfl, rfl, ⟨k0, ⟨⟨List.replicate 81 0, by simp, k1, k2, by unfold irL; simp, by simp⟩, ⟨([], 0), 0, List.replicate 40 0, by simp, k3, k4, by simp, by simp, by simp⟩, ⟨List.replicate 40 none, by simp, k5, by simp⟩⟩, ⟨List.replicate 12 none, ⟨k6, k7, by simp, by simp, by omega⟩, by simp⟩, ⟨List.replicate 6 none, k12, by simp, fun k hk => ⟨fun _ => by rw [List.getElem?_replicate, if_pos hk], fun x hx => by cases hx⟩⟩, ⟨List.replicate 5 none, ⟨k8, k9, by simp, by simp, by omega⟩, by simp⟩, ⟨List.replicate 5 none, ⟨k10, k11, by simp, by simp, by omega⟩, by simp⟩, ⟨List.replicate 6 none, k13, by simp, by simp⟩, ⟨by omega, 15, List.replicate 6 none, by omega, F14, F15, by simp, by simp, by simp⟩⟩, by omega, by omega⟩
def q00 : rS := fun _ _ => 0
theorem rL_0 (i N : Nat) (h : rN i = N) : List.replicate N (0 : Int) = rL q00 i := by
  unfold rL
  rw [h]
  apply List.ext_getElem?
  intro k
  rw [List.getElem?_map, List.getElem?_replicate]
  by_cases hk : k < N
  · simp [hk, q00]
  · simp [hk]
def q0i : rS := u3 (u3 (u3 (u3 (u3 (u3 q00 2 12 (-1)) 2 13 (-1)) 2 14 (-1)) 2 15 (-1)) 2 16 (-1)) 2 17 (-1)
set_option maxHeartbeats 4000000 in
set_option maxRecDepth 100000 in
theorem re_init {P : List xC} {n : Nat} : x_Mx mm_Re_init [.inr (some P.length)] (P ++ [.inr (.inr (8, [.inr none, .inr none, .inr none, .inr none, .inl 0, .inl 0, .inl 0, .inl 0, .inl 0, .inr none, .inr none, .inl 0, .inl 0, .inl 0, .inl 0]))], n) (fun r hf => r = none ∧ hf = rH (P, [], n + 10227) q0i) := by
  refine xmx rfl (nl rfl) ?_
  show x_X _ 0 [some (.inr (some P.length)), none] [] (P ++ [.inr (.inr (8, [.inr none, .inr none, .inr none, .inr none, .inl 0, .inl 0, .inl 0, .inl 0, .inl 0, .inr none, .inr none, .inl 0, .inl 0, .inl 0, .inl 0]))], n + 0) _
  refine xx (xs_aload_n dm_Re_init_0 rfl) ?_
  refine xx (xs_obj dm_Re_init_1 lo_Re_1 ⟨nl rfl, nl rfl⟩) ?_
  refine xx (xs_aload_n dm_Re_init_4 rfl) ?_
  refine xx (xs_sipush dm_Re_init_5 (by decide)) ?_
  refine xx (xs_newarr (idx := 0) dm_Re_init_8 la_int (by decide) (by decide)) ?_
  rw [show (P ++ ([.inr (.inr (8, [.inr none, .inr none, .inr none, .inr none, .inl 0, .inl 0, .inl 0, .inl 0, .inl 0, .inr none, .inr none, .inl 0, .inl 0, .inl 0, .inl 0]))] : List xC)).length = P.length + 1 by simp]
  show x_X _ 10 [some (.inr (some P.length)), none] [.inr (some (P.length + 1)), .inr (some P.length)] ((P ++ [.inr (.inr (8, [.inr none, .inr none, .inr none, .inr none, .inl 0, .inl 0, .inl 0, .inl 0, .inl 0, .inr none, .inr none, .inl 0, .inl 0, .inl 0, .inl 0]))] : List xC) ++ [.inl (List.replicate 10000 0)], n + 10000) _
  rw [List.append_assoc]
  show x_X _ 10 [some (.inr (some P.length)), none] [.inr (some (P.length + 1)), .inr (some P.length)] (P ++ [.inr (.inr (8, [.inr none, .inr none, .inr none, .inr none, .inl 0, .inl 0, .inl 0, .inl 0, .inl 0, .inr none, .inr none, .inl 0, .inl 0, .inl 0, .inl 0])), .inl (List.replicate 10000 0)], n + 10000) _
  refine xx (xs_putf dm_Re_init_10 lp_Re_7 (ci := 8) (fs := [.inr none, .inr none, .inr none, .inr none, .inl 0, .inl 0, .inl 0, .inl 0, .inl 0, .inr none, .inr none, .inl 0, .inl 0, .inl 0, .inl 0]) kw_at (nl rfl) (x_ft_a _ _)) ?_
  show x_X _ 13 [some (.inr (some P.length)), none] [] ((P ++ (.inr (.inr (8, [.inr none, .inr none, .inr none, .inr none, .inl 0, .inl 0, .inl 0, .inl 0, .inl 0, .inr none, .inr none, .inl 0, .inl 0, .inl 0, .inl 0])) :: [.inl (List.replicate 10000 0)]) : List xC).set P.length (.inr (.inr (8, [.inr (some (P.length + 1)), .inr none, .inr none, .inr none, .inl 0, .inl 0, .inl 0, .inl 0, .inl 0, .inr none, .inr none, .inl 0, .inl 0, .inl 0, .inl 0]))), n + 10000) _
  rw [kw_set]
  show x_X _ 13 [some (.inr (some P.length)), none] [] (P ++ [.inr (.inr (8, [.inr (some (P.length + 1)), .inr none, .inr none, .inr none, .inl 0, .inl 0, .inl 0, .inl 0, .inl 0, .inr none, .inr none, .inl 0, .inl 0, .inl 0, .inl 0])), .inl (List.replicate 10000 0)], n + 10000) _
  refine xx (xs_aload_n dm_Re_init_13 rfl) ?_
  refine xx (xs_bipush dm_Re_init_14 (by decide)) ?_
  refine xx (xs_newarr (idx := 0) dm_Re_init_16 la_int (by decide) (by decide)) ?_
  rw [show (P ++ ([.inr (.inr (8, [.inr (some (P.length + 1)), .inr none, .inr none, .inr none, .inl 0, .inl 0, .inl 0, .inl 0, .inl 0, .inr none, .inr none, .inl 0, .inl 0, .inl 0, .inl 0])), .inl (List.replicate 10000 0)] : List xC)).length = P.length + 2 by simp]
  show x_X _ 18 [some (.inr (some P.length)), none] [.inr (some (P.length + 2)), .inr (some P.length)] ((P ++ [.inr (.inr (8, [.inr (some (P.length + 1)), .inr none, .inr none, .inr none, .inl 0, .inl 0, .inl 0, .inl 0, .inl 0, .inr none, .inr none, .inl 0, .inl 0, .inl 0, .inl 0])), .inl (List.replicate 10000 0)] : List xC) ++ [.inl (List.replicate 120 0)], n + 10120) _
  rw [List.append_assoc]
  show x_X _ 18 [some (.inr (some P.length)), none] [.inr (some (P.length + 2)), .inr (some P.length)] (P ++ [.inr (.inr (8, [.inr (some (P.length + 1)), .inr none, .inr none, .inr none, .inl 0, .inl 0, .inl 0, .inl 0, .inl 0, .inr none, .inr none, .inl 0, .inl 0, .inl 0, .inl 0])), .inl (List.replicate 10000 0), .inl (List.replicate 120 0)], n + 10120) _
  refine xx (xs_putf dm_Re_init_18 lp_Re_13 (ci := 8) (fs := [.inr (some (P.length + 1)), .inr none, .inr none, .inr none, .inl 0, .inl 0, .inl 0, .inl 0, .inl 0, .inr none, .inr none, .inl 0, .inl 0, .inl 0, .inl 0]) kw_at (nl rfl) (x_ft_a _ _)) ?_
  show x_X _ 21 [some (.inr (some P.length)), none] [] ((P ++ (.inr (.inr (8, [.inr (some (P.length + 1)), .inr none, .inr none, .inr none, .inl 0, .inl 0, .inl 0, .inl 0, .inl 0, .inr none, .inr none, .inl 0, .inl 0, .inl 0, .inl 0])) :: [.inl (List.replicate 10000 0), .inl (List.replicate 120 0)]) : List xC).set P.length (.inr (.inr (8, [.inr (some (P.length + 1)), .inr (some (P.length + 2)), .inr none, .inr none, .inl 0, .inl 0, .inl 0, .inl 0, .inl 0, .inr none, .inr none, .inl 0, .inl 0, .inl 0, .inl 0]))), n + 10120) _
  rw [kw_set]
  show x_X _ 21 [some (.inr (some P.length)), none] [] (P ++ [.inr (.inr (8, [.inr (some (P.length + 1)), .inr (some (P.length + 2)), .inr none, .inr none, .inl 0, .inl 0, .inl 0, .inl 0, .inl 0, .inr none, .inr none, .inl 0, .inl 0, .inl 0, .inl 0])), .inl (List.replicate 10000 0), .inl (List.replicate 120 0)], n + 10120) _
  refine xx (xs_aload_n dm_Re_init_21 rfl) ?_
  refine xx (xs_bipush dm_Re_init_22 (by decide)) ?_
  refine xx (xs_newarr (idx := 0) dm_Re_init_24 la_int (by decide) (by decide)) ?_
  rw [show (P ++ ([.inr (.inr (8, [.inr (some (P.length + 1)), .inr (some (P.length + 2)), .inr none, .inr none, .inl 0, .inl 0, .inl 0, .inl 0, .inl 0, .inr none, .inr none, .inl 0, .inl 0, .inl 0, .inl 0])), .inl (List.replicate 10000 0), .inl (List.replicate 120 0)] : List xC)).length = P.length + 3 by simp]
  show x_X _ 26 [some (.inr (some P.length)), none] [.inr (some (P.length + 3)), .inr (some P.length)] ((P ++ [.inr (.inr (8, [.inr (some (P.length + 1)), .inr (some (P.length + 2)), .inr none, .inr none, .inl 0, .inl 0, .inl 0, .inl 0, .inl 0, .inr none, .inr none, .inl 0, .inl 0, .inl 0, .inl 0])), .inl (List.replicate 10000 0), .inl (List.replicate 120 0)] : List xC) ++ [.inl (List.replicate 30 0)], n + 10150) _
  rw [List.append_assoc]
  show x_X _ 26 [some (.inr (some P.length)), none] [.inr (some (P.length + 3)), .inr (some P.length)] (P ++ [.inr (.inr (8, [.inr (some (P.length + 1)), .inr (some (P.length + 2)), .inr none, .inr none, .inl 0, .inl 0, .inl 0, .inl 0, .inl 0, .inr none, .inr none, .inl 0, .inl 0, .inl 0, .inl 0])), .inl (List.replicate 10000 0), .inl (List.replicate 120 0), .inl (List.replicate 30 0)], n + 10150) _
  refine xx (xs_putf dm_Re_init_26 lp_Re_16 (ci := 8) (fs := [.inr (some (P.length + 1)), .inr (some (P.length + 2)), .inr none, .inr none, .inl 0, .inl 0, .inl 0, .inl 0, .inl 0, .inr none, .inr none, .inl 0, .inl 0, .inl 0, .inl 0]) kw_at (nl rfl) (x_ft_a _ _)) ?_
  show x_X _ 29 [some (.inr (some P.length)), none] [] ((P ++ (.inr (.inr (8, [.inr (some (P.length + 1)), .inr (some (P.length + 2)), .inr none, .inr none, .inl 0, .inl 0, .inl 0, .inl 0, .inl 0, .inr none, .inr none, .inl 0, .inl 0, .inl 0, .inl 0])) :: [.inl (List.replicate 10000 0), .inl (List.replicate 120 0), .inl (List.replicate 30 0)]) : List xC).set P.length (.inr (.inr (8, [.inr (some (P.length + 1)), .inr (some (P.length + 2)), .inr (some (P.length + 3)), .inr none, .inl 0, .inl 0, .inl 0, .inl 0, .inl 0, .inr none, .inr none, .inl 0, .inl 0, .inl 0, .inl 0]))), n + 10150) _
  rw [kw_set]
  show x_X _ 29 [some (.inr (some P.length)), none] [] (P ++ [.inr (.inr (8, [.inr (some (P.length + 1)), .inr (some (P.length + 2)), .inr (some (P.length + 3)), .inr none, .inl 0, .inl 0, .inl 0, .inl 0, .inl 0, .inr none, .inr none, .inl 0, .inl 0, .inl 0, .inl 0])), .inl (List.replicate 10000 0), .inl (List.replicate 120 0), .inl (List.replicate 30 0)], n + 10150) _
  refine xx (xs_aload_n dm_Re_init_29 rfl) ?_
  refine xx (xs_bipush dm_Re_init_30 (by decide)) ?_
  refine xx (xs_newarr (idx := 0) dm_Re_init_32 la_int (by decide) (by decide)) ?_
  rw [show (P ++ ([.inr (.inr (8, [.inr (some (P.length + 1)), .inr (some (P.length + 2)), .inr (some (P.length + 3)), .inr none, .inl 0, .inl 0, .inl 0, .inl 0, .inl 0, .inr none, .inr none, .inl 0, .inl 0, .inl 0, .inl 0])), .inl (List.replicate 10000 0), .inl (List.replicate 120 0), .inl (List.replicate 30 0)] : List xC)).length = P.length + 4 by simp]
  show x_X _ 34 [some (.inr (some P.length)), none] [.inr (some (P.length + 4)), .inr (some P.length)] ((P ++ [.inr (.inr (8, [.inr (some (P.length + 1)), .inr (some (P.length + 2)), .inr (some (P.length + 3)), .inr none, .inl 0, .inl 0, .inl 0, .inl 0, .inl 0, .inr none, .inr none, .inl 0, .inl 0, .inl 0, .inl 0])), .inl (List.replicate 10000 0), .inl (List.replicate 120 0), .inl (List.replicate 30 0)] : List xC) ++ [.inl (List.replicate 30 0)], n + 10180) _
  rw [List.append_assoc]
  show x_X _ 34 [some (.inr (some P.length)), none] [.inr (some (P.length + 4)), .inr (some P.length)] (P ++ [.inr (.inr (8, [.inr (some (P.length + 1)), .inr (some (P.length + 2)), .inr (some (P.length + 3)), .inr none, .inl 0, .inl 0, .inl 0, .inl 0, .inl 0, .inr none, .inr none, .inl 0, .inl 0, .inl 0, .inl 0])), .inl (List.replicate 10000 0), .inl (List.replicate 120 0), .inl (List.replicate 30 0), .inl (List.replicate 30 0)], n + 10180) _
  refine xx (xs_putf dm_Re_init_34 lp_Re_19 (ci := 8) (fs := [.inr (some (P.length + 1)), .inr (some (P.length + 2)), .inr (some (P.length + 3)), .inr none, .inl 0, .inl 0, .inl 0, .inl 0, .inl 0, .inr none, .inr none, .inl 0, .inl 0, .inl 0, .inl 0]) kw_at (nl rfl) (x_ft_a _ _)) ?_
  show x_X _ 37 [some (.inr (some P.length)), none] [] ((P ++ (.inr (.inr (8, [.inr (some (P.length + 1)), .inr (some (P.length + 2)), .inr (some (P.length + 3)), .inr none, .inl 0, .inl 0, .inl 0, .inl 0, .inl 0, .inr none, .inr none, .inl 0, .inl 0, .inl 0, .inl 0])) :: [.inl (List.replicate 10000 0), .inl (List.replicate 120 0), .inl (List.replicate 30 0), .inl (List.replicate 30 0)]) : List xC).set P.length (.inr (.inr (8, [.inr (some (P.length + 1)), .inr (some (P.length + 2)), .inr (some (P.length + 3)), .inr (some (P.length + 4)), .inl 0, .inl 0, .inl 0, .inl 0, .inl 0, .inr none, .inr none, .inl 0, .inl 0, .inl 0, .inl 0]))), n + 10180) _
  rw [kw_set]
  show x_X _ 37 [some (.inr (some P.length)), none] [] (P ++ [.inr (.inr (8, [.inr (some (P.length + 1)), .inr (some (P.length + 2)), .inr (some (P.length + 3)), .inr (some (P.length + 4)), .inl 0, .inl 0, .inl 0, .inl 0, .inl 0, .inr none, .inr none, .inl 0, .inl 0, .inl 0, .inl 0])), .inl (List.replicate 10000 0), .inl (List.replicate 120 0), .inl (List.replicate 30 0), .inl (List.replicate 30 0)], n + 10180) _
  refine xx (xs_aload_n dm_Re_init_37 rfl) ?_
  refine xx (xs_bipush dm_Re_init_38 (by decide)) ?_
  refine xx (xs_newarr (idx := 0) dm_Re_init_40 la_int (by decide) (by decide)) ?_
  rw [show (P ++ ([.inr (.inr (8, [.inr (some (P.length + 1)), .inr (some (P.length + 2)), .inr (some (P.length + 3)), .inr (some (P.length + 4)), .inl 0, .inl 0, .inl 0, .inl 0, .inl 0, .inr none, .inr none, .inl 0, .inl 0, .inl 0, .inl 0])), .inl (List.replicate 10000 0), .inl (List.replicate 120 0), .inl (List.replicate 30 0), .inl (List.replicate 30 0)] : List xC)).length = P.length + 5 by simp]
  show x_X _ 42 [some (.inr (some P.length)), none] [.inr (some (P.length + 5)), .inr (some P.length)] ((P ++ [.inr (.inr (8, [.inr (some (P.length + 1)), .inr (some (P.length + 2)), .inr (some (P.length + 3)), .inr (some (P.length + 4)), .inl 0, .inl 0, .inl 0, .inl 0, .inl 0, .inr none, .inr none, .inl 0, .inl 0, .inl 0, .inl 0])), .inl (List.replicate 10000 0), .inl (List.replicate 120 0), .inl (List.replicate 30 0), .inl (List.replicate 30 0)] : List xC) ++ [.inl (List.replicate 7 0)], n + 10187) _
  rw [List.append_assoc]
  show x_X _ 42 [some (.inr (some P.length)), none] [.inr (some (P.length + 5)), .inr (some P.length)] (P ++ [.inr (.inr (8, [.inr (some (P.length + 1)), .inr (some (P.length + 2)), .inr (some (P.length + 3)), .inr (some (P.length + 4)), .inl 0, .inl 0, .inl 0, .inl 0, .inl 0, .inr none, .inr none, .inl 0, .inl 0, .inl 0, .inl 0])), .inl (List.replicate 10000 0), .inl (List.replicate 120 0), .inl (List.replicate 30 0), .inl (List.replicate 30 0), .inl (List.replicate 7 0)], n + 10187) _
  refine xx (xs_putf dm_Re_init_42 lp_Re_22 (ci := 8) (fs := [.inr (some (P.length + 1)), .inr (some (P.length + 2)), .inr (some (P.length + 3)), .inr (some (P.length + 4)), .inl 0, .inl 0, .inl 0, .inl 0, .inl 0, .inr none, .inr none, .inl 0, .inl 0, .inl 0, .inl 0]) kw_at (nl rfl) (x_ft_a _ _)) ?_
  show x_X _ 45 [some (.inr (some P.length)), none] [] ((P ++ (.inr (.inr (8, [.inr (some (P.length + 1)), .inr (some (P.length + 2)), .inr (some (P.length + 3)), .inr (some (P.length + 4)), .inl 0, .inl 0, .inl 0, .inl 0, .inl 0, .inr none, .inr none, .inl 0, .inl 0, .inl 0, .inl 0])) :: [.inl (List.replicate 10000 0), .inl (List.replicate 120 0), .inl (List.replicate 30 0), .inl (List.replicate 30 0), .inl (List.replicate 7 0)]) : List xC).set P.length (.inr (.inr (8, [.inr (some (P.length + 1)), .inr (some (P.length + 2)), .inr (some (P.length + 3)), .inr (some (P.length + 4)), .inl 0, .inl 0, .inl 0, .inl 0, .inl 0, .inr (some (P.length + 5)), .inr none, .inl 0, .inl 0, .inl 0, .inl 0]))), n + 10187) _
  rw [kw_set]
  show x_X _ 45 [some (.inr (some P.length)), none] [] (P ++ [.inr (.inr (8, [.inr (some (P.length + 1)), .inr (some (P.length + 2)), .inr (some (P.length + 3)), .inr (some (P.length + 4)), .inl 0, .inl 0, .inl 0, .inl 0, .inl 0, .inr (some (P.length + 5)), .inr none, .inl 0, .inl 0, .inl 0, .inl 0])), .inl (List.replicate 10000 0), .inl (List.replicate 120 0), .inl (List.replicate 30 0), .inl (List.replicate 30 0), .inl (List.replicate 7 0)], n + 10187) _
  refine xx (xs_aload_n dm_Re_init_45 rfl) ?_
  refine xx (xs_bipush dm_Re_init_46 (by decide)) ?_
  refine xx (xs_newarr (idx := 0) dm_Re_init_48 la_int (by decide) (by decide)) ?_
  rw [show (P ++ ([.inr (.inr (8, [.inr (some (P.length + 1)), .inr (some (P.length + 2)), .inr (some (P.length + 3)), .inr (some (P.length + 4)), .inl 0, .inl 0, .inl 0, .inl 0, .inl 0, .inr (some (P.length + 5)), .inr none, .inl 0, .inl 0, .inl 0, .inl 0])), .inl (List.replicate 10000 0), .inl (List.replicate 120 0), .inl (List.replicate 30 0), .inl (List.replicate 30 0), .inl (List.replicate 7 0)] : List xC)).length = P.length + 6 by simp]
  show x_X _ 50 [some (.inr (some P.length)), none] [.inr (some (P.length + 6)), .inr (some P.length)] ((P ++ [.inr (.inr (8, [.inr (some (P.length + 1)), .inr (some (P.length + 2)), .inr (some (P.length + 3)), .inr (some (P.length + 4)), .inl 0, .inl 0, .inl 0, .inl 0, .inl 0, .inr (some (P.length + 5)), .inr none, .inl 0, .inl 0, .inl 0, .inl 0])), .inl (List.replicate 10000 0), .inl (List.replicate 120 0), .inl (List.replicate 30 0), .inl (List.replicate 30 0), .inl (List.replicate 7 0)] : List xC) ++ [.inl (List.replicate 40 0)], n + 10227) _
  rw [List.append_assoc]
  show x_X _ 50 [some (.inr (some P.length)), none] [.inr (some (P.length + 6)), .inr (some P.length)] (P ++ [.inr (.inr (8, [.inr (some (P.length + 1)), .inr (some (P.length + 2)), .inr (some (P.length + 3)), .inr (some (P.length + 4)), .inl 0, .inl 0, .inl 0, .inl 0, .inl 0, .inr (some (P.length + 5)), .inr none, .inl 0, .inl 0, .inl 0, .inl 0])), .inl (List.replicate 10000 0), .inl (List.replicate 120 0), .inl (List.replicate 30 0), .inl (List.replicate 30 0), .inl (List.replicate 7 0), .inl (List.replicate 40 0)], n + 10227) _
  refine xx (xs_putf dm_Re_init_50 lp_Re_25 (ci := 8) (fs := [.inr (some (P.length + 1)), .inr (some (P.length + 2)), .inr (some (P.length + 3)), .inr (some (P.length + 4)), .inl 0, .inl 0, .inl 0, .inl 0, .inl 0, .inr (some (P.length + 5)), .inr none, .inl 0, .inl 0, .inl 0, .inl 0]) kw_at (nl rfl) (x_ft_a _ _)) ?_
  show x_X _ 53 [some (.inr (some P.length)), none] [] ((P ++ (.inr (.inr (8, [.inr (some (P.length + 1)), .inr (some (P.length + 2)), .inr (some (P.length + 3)), .inr (some (P.length + 4)), .inl 0, .inl 0, .inl 0, .inl 0, .inl 0, .inr (some (P.length + 5)), .inr none, .inl 0, .inl 0, .inl 0, .inl 0])) :: [.inl (List.replicate 10000 0), .inl (List.replicate 120 0), .inl (List.replicate 30 0), .inl (List.replicate 30 0), .inl (List.replicate 7 0), .inl (List.replicate 40 0)]) : List xC).set P.length (.inr (.inr (8, [.inr (some (P.length + 1)), .inr (some (P.length + 2)), .inr (some (P.length + 3)), .inr (some (P.length + 4)), .inl 0, .inl 0, .inl 0, .inl 0, .inl 0, .inr (some (P.length + 5)), .inr (some (P.length + 6)), .inl 0, .inl 0, .inl 0, .inl 0]))), n + 10227) _
  rw [kw_set]
  show x_X _ 53 [some (.inr (some P.length)), none] [] (P ++ [.inr (.inr (8, [.inr (some (P.length + 1)), .inr (some (P.length + 2)), .inr (some (P.length + 3)), .inr (some (P.length + 4)), .inl 0, .inl 0, .inl 0, .inl 0, .inl 0, .inr (some (P.length + 5)), .inr (some (P.length + 6)), .inl 0, .inl 0, .inl 0, .inl 0])), .inl (List.replicate 10000 0), .inl (List.replicate 120 0), .inl (List.replicate 30 0), .inl (List.replicate 30 0), .inl (List.replicate 7 0), .inl (List.replicate 40 0)], n + 10227) _
  rw [show (P ++ [.inr (.inr (8, [.inr (some (P.length + 1)), .inr (some (P.length + 2)), .inr (some (P.length + 3)), .inr (some (P.length + 4)), .inl 0, .inl 0, .inl 0, .inl 0, .inl 0, .inr (some (P.length + 5)), .inr (some (P.length + 6)), .inl 0, .inl 0, .inl 0, .inl 0])), .inl (List.replicate 10000 0), .inl (List.replicate 120 0), .inl (List.replicate 30 0), .inl (List.replicate 30 0), .inl (List.replicate 7 0), .inl (List.replicate 40 0)], n + 10227) = rH (P, [], n + 10227) q00 by
    unfold rH rC
    rw [← rL_0 0 10000 rfl, ← rL_0 1 120 rfl, ← rL_0 2 30 rfl, ← rL_0 3 30 rfl, ← rL_0 4 7 rfl, ← rL_0 5 40 rfl]
    rfl]
  refine xxq (Q' := fun r h => ∃ q', h = rH (P, [], n + 10227) q' ∧ r = none ∧ q' = q0i) ?_ (fun r hf hh => by obtain ⟨q', h1, h2, h3⟩ := hh; exact ⟨h2, by rw [h1, h3]⟩)
  obtain ⟨E, eE⟩ : ∃ E : rE, E = (P, [], n + 10227) := ⟨_, rfl⟩
  rw [show P.length = E.1.length by rw [eE], ← eE]
  clear eE
  change rX E mm_Re_init 53 [some (.inr (some E.1.length)), none] [] q00 (fun r q' => r = none ∧ q' = q0i)
  show rX E _ 53 [some (.inr (some E.1.length)), none] [] _ _
  refine rx (xs_bipush dm_Re_init_53 (by decide)) ?_
  refine rx (xs_istore_n dm_Re_init_55 (by decide)) ?_
  show rX E _ 56 [some (.inr (some E.1.length)), some (.inl 12)] [] _ _
  refine rx (xs_iload_n dm_Re_init_56 rfl) ?_
  refine rx (xs_bipush dm_Re_init_57 (by decide)) ?_
  refine rx (xs_icmp_ge_f (tgt := 75) dm_Re_init_59 rfl (by unfold ir; omega) (by unfold ir; omega) (by omega)) ?_
  refine rx (xs_aload_n dm_Re_init_62 rfl) ?_
  refine rx (rg (v := .inr (some (rA E 2))) dm_Re_init_63 lf_Re_16 rfl) ?_
  refine rx (xs_iload_n dm_Re_init_66 rfl) ?_
  refine rx (xs_iconst dm_Re_init_67) ?_
  refine rx (rtn 2 12 (by decide) dm_Re_init_68 (by omega) (by show _ < ((30 : Nat) : Int); omega) (by decide)) ?_
  refine rx (xs_iinc dm_Re_init_69 rfl (by decide)) ?_
  show rX E _ 72 [some (.inr (some E.1.length)), some (.inl (12 + 1))] [] _ _
  refine rx (xs_goto (tgt := 56) dm_Re_init_72 rfl) ?_
  refine rx (xs_iload_n dm_Re_init_56 rfl) ?_
  refine rx (xs_bipush dm_Re_init_57 (by decide)) ?_
  refine rx (xs_icmp_ge_f (tgt := 75) dm_Re_init_59 rfl (by unfold ir; omega) (by unfold ir; omega) (by omega)) ?_
  refine rx (xs_aload_n dm_Re_init_62 rfl) ?_
  refine rx (rg (v := .inr (some (rA E 2))) dm_Re_init_63 lf_Re_16 rfl) ?_
  refine rx (xs_iload_n dm_Re_init_66 rfl) ?_
  refine rx (xs_iconst dm_Re_init_67) ?_
  refine rx (rtn 2 13 (by decide) dm_Re_init_68 (by omega) (by show _ < ((30 : Nat) : Int); omega) (by decide)) ?_
  refine rx (xs_iinc dm_Re_init_69 rfl (by decide)) ?_
  show rX E _ 72 [some (.inr (some E.1.length)), some (.inl ((12 + 1) + 1))] [] _ _
  refine rx (xs_goto (tgt := 56) dm_Re_init_72 rfl) ?_
  refine rx (xs_iload_n dm_Re_init_56 rfl) ?_
  refine rx (xs_bipush dm_Re_init_57 (by decide)) ?_
  refine rx (xs_icmp_ge_f (tgt := 75) dm_Re_init_59 rfl (by unfold ir; omega) (by unfold ir; omega) (by omega)) ?_
  refine rx (xs_aload_n dm_Re_init_62 rfl) ?_
  refine rx (rg (v := .inr (some (rA E 2))) dm_Re_init_63 lf_Re_16 rfl) ?_
  refine rx (xs_iload_n dm_Re_init_66 rfl) ?_
  refine rx (xs_iconst dm_Re_init_67) ?_
  refine rx (rtn 2 14 (by decide) dm_Re_init_68 (by omega) (by show _ < ((30 : Nat) : Int); omega) (by decide)) ?_
  refine rx (xs_iinc dm_Re_init_69 rfl (by decide)) ?_
  show rX E _ 72 [some (.inr (some E.1.length)), some (.inl (((12 + 1) + 1) + 1))] [] _ _
  refine rx (xs_goto (tgt := 56) dm_Re_init_72 rfl) ?_
  refine rx (xs_iload_n dm_Re_init_56 rfl) ?_
  refine rx (xs_bipush dm_Re_init_57 (by decide)) ?_
  refine rx (xs_icmp_ge_f (tgt := 75) dm_Re_init_59 rfl (by unfold ir; omega) (by unfold ir; omega) (by omega)) ?_
  refine rx (xs_aload_n dm_Re_init_62 rfl) ?_
  refine rx (rg (v := .inr (some (rA E 2))) dm_Re_init_63 lf_Re_16 rfl) ?_
  refine rx (xs_iload_n dm_Re_init_66 rfl) ?_
  refine rx (xs_iconst dm_Re_init_67) ?_
  refine rx (rtn 2 15 (by decide) dm_Re_init_68 (by omega) (by show _ < ((30 : Nat) : Int); omega) (by decide)) ?_
  refine rx (xs_iinc dm_Re_init_69 rfl (by decide)) ?_
  show rX E _ 72 [some (.inr (some E.1.length)), some (.inl ((((12 + 1) + 1) + 1) + 1))] [] _ _
  refine rx (xs_goto (tgt := 56) dm_Re_init_72 rfl) ?_
  refine rx (xs_iload_n dm_Re_init_56 rfl) ?_
  refine rx (xs_bipush dm_Re_init_57 (by decide)) ?_
  refine rx (xs_icmp_ge_f (tgt := 75) dm_Re_init_59 rfl (by unfold ir; omega) (by unfold ir; omega) (by omega)) ?_
  refine rx (xs_aload_n dm_Re_init_62 rfl) ?_
  refine rx (rg (v := .inr (some (rA E 2))) dm_Re_init_63 lf_Re_16 rfl) ?_
  refine rx (xs_iload_n dm_Re_init_66 rfl) ?_
  refine rx (xs_iconst dm_Re_init_67) ?_
  refine rx (rtn 2 16 (by decide) dm_Re_init_68 (by omega) (by show _ < ((30 : Nat) : Int); omega) (by decide)) ?_
  refine rx (xs_iinc dm_Re_init_69 rfl (by decide)) ?_
  show rX E _ 72 [some (.inr (some E.1.length)), some (.inl (((((12 + 1) + 1) + 1) + 1) + 1))] [] _ _
  refine rx (xs_goto (tgt := 56) dm_Re_init_72 rfl) ?_
  refine rx (xs_iload_n dm_Re_init_56 rfl) ?_
  refine rx (xs_bipush dm_Re_init_57 (by decide)) ?_
  refine rx (xs_icmp_ge_f (tgt := 75) dm_Re_init_59 rfl (by unfold ir; omega) (by unfold ir; omega) (by omega)) ?_
  refine rx (xs_aload_n dm_Re_init_62 rfl) ?_
  refine rx (rg (v := .inr (some (rA E 2))) dm_Re_init_63 lf_Re_16 rfl) ?_
  refine rx (xs_iload_n dm_Re_init_66 rfl) ?_
  refine rx (xs_iconst dm_Re_init_67) ?_
  refine rx (rtn 2 17 (by decide) dm_Re_init_68 (by omega) (by show _ < ((30 : Nat) : Int); omega) (by decide)) ?_
  refine rx (xs_iinc dm_Re_init_69 rfl (by decide)) ?_
  show rX E _ 72 [some (.inr (some E.1.length)), some (.inl ((((((12 + 1) + 1) + 1) + 1) + 1) + 1))] [] _ _
  refine rx (xs_goto (tgt := 56) dm_Re_init_72 rfl) ?_
  refine rx (xs_iload_n dm_Re_init_56 rfl) ?_
  refine rx (xs_bipush dm_Re_init_57 (by decide)) ?_
  refine rx (xs_icmp_ge_t (tgt := 75) dm_Re_init_59 rfl (by unfold ir; omega) (by unfold ir; omega) (by omega)) ?_
  exact rrv dm_Re_init_75 rfl ⟨rfl, rfl⟩
theorem gM_0 : gM mS0 := ⟨by simp [mS0], by simp [mS0], by simp [mS0], by simp [mS0], by simp [mS0], by simp [mS0], by simp [mS0], by simp [mS0], by simp [mS0], by simp [mS0]⟩
theorem Rl_0 : Rl q0i mS0 := by
  refine ⟨rfl, by simp [mS0], fun k hk => ⟨fun _ => ?_, fun x hx => by cases hx⟩, rfl, by simp [mS0], rfl, by simp [mS0], rfl, by simp [mS0], rfl, fun k hk => ?_⟩
  · rcases (show k = 0 ∨ k = 1 ∨ k = 2 ∨ k = 3 ∨ k = 4 ∨ k = 5 by omega) with e | e | e | e | e | e <;> subst e <;> rfl
  · rw [show q0i 1 k = 0 by unfold q0i; rw [u3_ne (by omega), u3_ne (by omega), u3_ne (by omega), u3_ne (by omega), u3_ne (by omega), u3_ne (by omega)]; rfl]
    omega
