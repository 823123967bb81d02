/-! the commands that make types and terms -/
theorem fin9_ty {M : mS} {n : Nat} {l : List Int} (hn : M.1.length - n < 12) : fin9 M n (0, l.take 81, []) = if 15 < l.length then (4, M) else fi M n (0, l, []) false := by
  unfold fin9
  by_cases h : 15 < l.length
  · rw [if_pos h]
    refine ifc_f (fun e => ?_) _ _
    have this : (l.take 81).length ≤ 15 := e.1.1
    rw [List.length_take] at this
    omega
  · rw [if_neg h, take_id (by omega)]
    exact ifc_t ⟨⟨by show l.length ≤ 15; omega, by simp, by simp⟩, hn⟩ _ _
theorem fin9_t1 {M : mS} {s : Int} (hg : gM M) : fin9 M 0 (0, [s], []) = if M.1.length = 12 then (4, M) else fi M 0 (0, [s], []) false := by
  have g6 := hg.2.2.2.2.2.1
  unfold fin9
  by_cases h : M.1.length = 12
  · rw [if_pos h]
    exact ifc_f (fun e => by have := e.2; omega) _ _
  · rw [if_neg h]
    exact ifc_t ⟨⟨by show 1 ≤ 15; omega, by simp, by simp⟩, by omega⟩ _ _
theorem smO_g {x : oB} (h : gO x) : smO x := by
  rcases h with ⟨k, _, l, e⟩ | ⟨k, _, l, e⟩ | ⟨k, _, l, e, _, f⟩
  · exact ⟨by rw [if_pos k]; exact l, by rw [e]; simp, by rw [e]; simp⟩
  · exact ⟨by rw [if_neg (by omega)]; exact l, by rw [e]; simp, by rw [e]; simp⟩
  · exact ⟨by rw [if_neg (by omega)]; exact l, e, fun v hv => (f v hv).2⟩
set_option maxHeartbeats 4000000 in
set_option maxRecDepth 100000 in
theorem ma_type {h : xH} {M : mS} {k : Int} (hg : gM M) (hm : cM h M) (hk : ir k) : x_Mx mm_Ma_type [.inr (some 0), .inl k] h (clP 250 1500 h (st_type M k)) := by
  refine xmx rfl (nl rfl) ?_
  have hm0 := hm
  have m1 := hm.1
  have G := gr_rf pS h
  show x_X _ 0 [some (.inr (some 0)), some (.inl k), none, none] [] _ _
  have hk2 := hk
  unfold ir at hk2
  have g6 := hg.2.2.2.2.2.1
  refine xx (xs_iload_n dm_Ma_type_0 rfl) ?_
  refine xx (xs_iconst dm_Ma_type_1) ?_
  refine xx_icmp_lt (tgt := 10) dm_Ma_type_2 rfl hk (by unfold ir; omega) (fun hc => ?_) (fun hc => ?_)
  · change x_X _ 10 _ _ _ _
    refine xx (xs_iconst dm_Ma_type_10) ?_
    rw [show st_type M k = (2, M) by unfold st_type; rw [if_pos (by omega)]]
    exact ⟨_, _, xb_i dm_Ma_type_11 rfl, rfl, hm, gr_w (gr_SA G) (fun _ _ e => e) (by omega) (by omega)⟩
  · change x_X _ 5 _ _ _ _
    refine xx (xs_iload_n dm_Ma_type_5 rfl) ?_
    refine xx (xs_iconst dm_Ma_type_6) ?_
    refine xx_icmp_le (tgt := 12) dm_Ma_type_7 rfl hk (by unfold ir; omega) (fun hc2 => ?_) (fun hc2 => ?_)
    · change x_X _ 12 _ _ _ _
      refine xx (xs_iload_n dm_Ma_type_12 rfl) ?_
      refine xx (xs_iconst dm_Ma_type_13) ?_
      refine xx_icmp_eq (tgt := 42) dm_Ma_type_14 rfl hk (by unfold ir; omega) (fun hc3 => ?_) (fun hc3 => ?_)
      · change x_X _ 42 _ _ _ _
        refine xx (xs_aload_n dm_Ma_type_42 rfl) ?_
        refine xx (xs_iconst dm_Ma_type_43) ?_
        refine xx (xs_iconst dm_Ma_type_44) ?_
        refine xcV (as := [.inl 1, .inl 0]) (rest := []) dm_Ma_type_45 lc_Ma_rowBelow lm_Ma_65 li_Ma_rowBelow (nr rfl rfl) rfl rfl m1 rfl (nl rfl) (ma_rowB (i := 1) hg hm rfl (by decide) (by decide)) ?_
        rintro r9 hx9 ⟨hhx9, hR⟩
        have hhx9 := hhx9.symm
        subst hhx9
        rcases hR with ⟨k1, a1, x1, hx1, e9, w1⟩ | ⟨k1, e9⟩
        · subst e9
          obtain ⟨ka1, kb1, kc1⟩ := kd_of hx1
          have hl1 := (List.getElem?_eq_some_iff.mp hx1).1
          have gx1 := gM_top hg hx1
          have w1_0 := w1
          show x_X _ 48 [some (.inr (some 0)), some (.inl k), none, none] [.inr (some a1)] _ _
          refine xx (xs_astore_n dm_Ma_type_48 (by decide)) ?_
          show x_X _ 49 [some (.inr (some 0)), some (.inl k), some (.inr (some a1)), none] [] _ _
          refine xx (xs_aload_n dm_Ma_type_49 rfl) ?_
          refine xx (xs_iconst dm_Ma_type_50) ?_
          refine xx (xs_iconst dm_Ma_type_51) ?_
          refine xcV (as := [.inl 0, .inl 0]) (rest := []) dm_Ma_type_52 lc_Ma_rowBelow lm_Ma_65 li_Ma_rowBelow (nr rfl rfl) rfl rfl m1 rfl (nl rfl) (ma_rowB (i := 0) hg hm rfl (by decide) (by decide)) ?_
          rintro r9 hx9 ⟨hhx9, hR⟩
          have hhx9 := hhx9.symm
          subst hhx9
          rcases hR with ⟨k0, a0, x0, hx0, e9, w0⟩ | ⟨k0, e9⟩
          · subst e9
            obtain ⟨ka0, kb0, kc0⟩ := kd_of hx0
            have hl0 := (List.getElem?_eq_some_iff.mp hx0).1
            have gx0 := gM_top hg hx0
            have w0_0 := w0
            show x_X _ 55 [some (.inr (some 0)), some (.inl k), some (.inr (some a1)), none] [.inr (some a0)] _ _
            rw [show st_type M k = fin9 M 2 (0, (0 :: (x1.2.1 ++ x0.2.1)).take 81, []) by unfold st_type; rw [if_neg (by omega), if_pos (by omega), if_pos ⟨k0, k1⟩, kb1, kb0]; exact (fin9_ty (by omega)).symm]
            refine xx (xs_astore_n dm_Ma_type_55 (by decide)) ?_
            show x_X _ 56 [some (.inr (some 0)), some (.inl k), some (.inr (some a1)), some (.inr (some a0))] [] _ _
            refine xx (xs_aload_n dm_Ma_type_56 rfl) ?_
            refine xx (xs_ifnull_f dm_Ma_type_57) ?_
            refine xx (xs_aload_n dm_Ma_type_60 rfl) ?_
            refine xx (xs_ifnonnull_t (tgt := 66) dm_Ma_type_61 rfl) ?_
            refine xx (xs_aload_n dm_Ma_type_66 rfl) ?_
            refine xx (xs_iconst dm_Ma_type_67) ?_
            refine xx (xs_aload_n dm_Ma_type_68 rfl) ?_
            refine xx (xs_getf dm_Ma_type_69 lf_Ma_10 m1 rfl) ?_
            refine xx (xs_aload_n dm_Ma_type_72 rfl) ?_
            refine xx (xs_aload_n dm_Ma_type_73 rfl) ?_
            refine xcV (as := [.inr (some a1), .inr (some a0)]) (rest := [.inl 2, .inr (some 0)]) dm_Ma_type_74 lc_Sc_functionType lm_Ma_69 li_Sc_functionType (nr rfl rfl) rfl rfl (scP_c hm.2.1.1).choose_spec rfl (nl rfl) (sk_fun hm w1 w0) ?_
            rintro _ h1 ⟨br, rfl, hm, vr, gr⟩
            have G := gr_tr G gr (fun _ _ e => e) (Nat.le_refl _) (Nat.le_refl _)
            have w1 := rwA_S w1_0 G
            have w0 := rwA_S w0_0 G
            have m1 := hm.1
            show x_X _ 77 [some (.inr (some 0)), some (.inl k), some (.inr (some a1)), some (.inr (some a0))] [.inr (some br), .inl 2, .inr (some 0)] _ _
            refine xcV (as := [.inl 2, .inr (some br)]) (rest := []) dm_Ma_type_77 lc_Ma_finishType lm_Ma_61 li_Ma_finishType (nr rfl rfl) rfl rfl m1 rfl (nl rfl) (ma_fTy (n := 2) hg hm vr rfl (by decide)) ?_
            rintro _ h2 ⟨rfl, hmF, gF⟩
            show x_X _ 80 [some (.inr (some 0)), some (.inl k), some (.inr (some a1)), some (.inr (some a0))] [.inl (fin9 M 2 (0, (0 :: (x1.2.1 ++ x0.2.1)).take 81, [])).1] _ _
            exact ⟨_, _, xb_i dm_Ma_type_80 rfl, rfl, hmF, gr_w (gr_tr (gr_SA G) gF (fun _ _ e => e) (Nat.le_refl _) (Nat.le_refl _)) (fun _ _ e => e) (by omega) (by omega)⟩
          · subst e9
            show x_X _ 55 [some (.inr (some 0)), some (.inl k), some (.inr (some a1)), none] [.inr none] _ _
            refine xx (xs_astore_n dm_Ma_type_55 (by decide)) ?_
            show x_X _ 56 [some (.inr (some 0)), some (.inl k), some (.inr (some a1)), some (.inr none)] [] _ _
            refine xx (xs_aload_n dm_Ma_type_56 rfl) ?_
            refine xx (xs_ifnull_f dm_Ma_type_57) ?_
            refine xx (xs_aload_n dm_Ma_type_60 rfl) ?_
            refine xx (xs_ifnonnull_f dm_Ma_type_61) ?_
            refine xx (xs_iconst dm_Ma_type_64) ?_
            rw [show st_type M k = (1, M) by unfold st_type; rw [if_neg (by omega), if_pos (by omega), if_neg (fun e => k0 e.1)]]
            exact ⟨_, _, xb_i dm_Ma_type_65 rfl, rfl, hm, gr_w (gr_SA G) (fun _ _ e => e) (by omega) (by omega)⟩
        · subst e9
          show x_X _ 48 [some (.inr (some 0)), some (.inl k), none, none] [.inr none] _ _
          refine xx (xs_astore_n dm_Ma_type_48 (by decide)) ?_
          show x_X _ 49 [some (.inr (some 0)), some (.inl k), some (.inr none), none] [] _ _
          refine xx (xs_aload_n dm_Ma_type_49 rfl) ?_
          refine xx (xs_iconst dm_Ma_type_50) ?_
          refine xx (xs_iconst dm_Ma_type_51) ?_
          refine xcV (as := [.inl 0, .inl 0]) (rest := []) dm_Ma_type_52 lc_Ma_rowBelow lm_Ma_65 li_Ma_rowBelow (nr rfl rfl) rfl rfl m1 rfl (nl rfl) (ma_rowB (i := 0) hg hm rfl (by decide) (by decide)) ?_
          rintro r9 hx9 ⟨hhx9, hR⟩
          have hhx9 := hhx9.symm
          subst hhx9
          rcases hR with ⟨k0, a0, x0, hx0, e9, w0⟩ | ⟨k0, e9⟩
          · subst e9
            obtain ⟨ka0, kb0, kc0⟩ := kd_of hx0
            have hl0 := (List.getElem?_eq_some_iff.mp hx0).1
            have gx0 := gM_top hg hx0
            have w0_0 := w0
            show x_X _ 55 [some (.inr (some 0)), some (.inl k), some (.inr none), none] [.inr (some a0)] _ _
            refine xx (xs_astore_n dm_Ma_type_55 (by decide)) ?_
            show x_X _ 56 [some (.inr (some 0)), some (.inl k), some (.inr none), some (.inr (some a0))] [] _ _
            refine xx (xs_aload_n dm_Ma_type_56 rfl) ?_
            refine xx (xs_ifnull_t (tgt := 64) dm_Ma_type_57 rfl) ?_
            refine xx (xs_iconst dm_Ma_type_64) ?_
            rw [show st_type M k = (1, M) by unfold st_type; rw [if_neg (by omega), if_pos (by omega), if_neg (fun e => k1 e.2)]]
            exact ⟨_, _, xb_i dm_Ma_type_65 rfl, rfl, hm, gr_w (gr_SA G) (fun _ _ e => e) (by omega) (by omega)⟩
          · subst e9
            show x_X _ 55 [some (.inr (some 0)), some (.inl k), some (.inr none), none] [.inr none] _ _
            refine xx (xs_astore_n dm_Ma_type_55 (by decide)) ?_
            show x_X _ 56 [some (.inr (some 0)), some (.inl k), some (.inr none), some (.inr none)] [] _ _
            refine xx (xs_aload_n dm_Ma_type_56 rfl) ?_
            refine xx (xs_ifnull_t (tgt := 64) dm_Ma_type_57 rfl) ?_
            refine xx (xs_iconst dm_Ma_type_64) ?_
            rw [show st_type M k = (1, M) by unfold st_type; rw [if_neg (by omega), if_pos (by omega), if_neg (fun e => k1 e.2)]]
            exact ⟨_, _, xb_i dm_Ma_type_65 rfl, rfl, hm, gr_w (gr_SA G) (fun _ _ e => e) (by omega) (by omega)⟩
      · change x_X _ 17 _ _ _ _
        refine xx (xs_aload_n dm_Ma_type_17 rfl) ?_
        refine xx (xs_iconst dm_Ma_type_18) ?_
        refine xx (xs_aload_n dm_Ma_type_19 rfl) ?_
        refine xx (xs_getf dm_Ma_type_20 lf_Ma_10 m1 rfl) ?_
        refine xx (xs_iload_n dm_Ma_type_23 rfl) ?_
        refine xx (xs_iconst dm_Ma_type_24) ?_
        refine xx_icmp_ne (tgt := 32) dm_Ma_type_25 rfl hk (by unfold ir; omega) (fun hc4 => ?_) (fun hc4 => ?_)
        · change x_X _ 32 _ _ _ _
          rw [show st_type M k = fin9 M 0 (0, [2 + k], []) by rw [fin9_t1 hg]; unfold st_type; rw [if_neg (by omega), if_neg (by omega), show k + 2 = 2 + k by omega]]
          refine xx (xs_iconst dm_Ma_type_32) ?_
          refine xx (xs_iload_n dm_Ma_type_33 rfl) ?_
          refine xx (xs_iadd dm_Ma_type_34) ?_
          refine xcV (as := [.inl (2 + k)]) (rest := [.inl 0, .inr (some 0)]) dm_Ma_type_35 lc_Sc_simpleType lm_Ma_57 li_Sc_simpleType (nr rfl rfl) rfl rfl (scP_c hm.2.1.1).choose_spec rfl (nl rfl) (sk_simple hm (by unfold ir; omega)) ?_
          rintro _ h1 ⟨br, rfl, hm, vr, gr⟩
          have G := gr_tr G gr (fun _ _ e => e) (Nat.le_refl _) (Nat.le_refl _)
          have m1 := hm.1
          show x_X _ 38 [some (.inr (some 0)), some (.inl k), none, none] [.inr (some br), .inl 0, .inr (some 0)] _ _
          refine xcV (as := [.inl 0, .inr (some br)]) (rest := []) dm_Ma_type_38 lc_Ma_finishType lm_Ma_61 li_Ma_finishType (nr rfl rfl) rfl rfl m1 rfl (nl rfl) (ma_fTy (n := 0) hg hm vr rfl (by decide)) ?_
          rintro _ h2 ⟨rfl, hmF, gF⟩
          show x_X _ 41 [some (.inr (some 0)), some (.inl k), none, none] [.inl (fin9 M 0 (0, [2 + k], [])).1] _ _
          exact ⟨_, _, xb_i dm_Ma_type_41 rfl, rfl, hmF, gr_w (gr_tr (gr_SA G) gF (fun _ _ e => e) (Nat.le_refl _) (Nat.le_refl _)) (fun _ _ e => e) (by omega) (by omega)⟩
        · change x_X _ 28 _ _ _ _
          rw [show st_type M k = fin9 M 0 (0, [1], []) by rw [fin9_t1 hg]; unfold st_type; rw [if_neg (by omega), if_neg (by omega), show k + 2 = 1 by omega]]
          refine xx (xs_iconst dm_Ma_type_28) ?_
          refine xx (xs_goto (tgt := 35) dm_Ma_type_29 rfl) ?_
          refine xcV (as := [.inl 1]) (rest := [.inl 0, .inr (some 0)]) dm_Ma_type_35 lc_Sc_simpleType lm_Ma_57 li_Sc_simpleType (nr rfl rfl) rfl rfl (scP_c hm.2.1.1).choose_spec rfl (nl rfl) (sk_simple hm (by unfold ir; omega)) ?_
          rintro _ h1 ⟨br, rfl, hm, vr, gr⟩
          have G := gr_tr G gr (fun _ _ e => e) (Nat.le_refl _) (Nat.le_refl _)
          have m1 := hm.1
          show x_X _ 38 [some (.inr (some 0)), some (.inl k), none, none] [.inr (some br), .inl 0, .inr (some 0)] _ _
          refine xcV (as := [.inl 0, .inr (some br)]) (rest := []) dm_Ma_type_38 lc_Ma_finishType lm_Ma_61 li_Ma_finishType (nr rfl rfl) rfl rfl m1 rfl (nl rfl) (ma_fTy (n := 0) hg hm vr rfl (by decide)) ?_
          rintro _ h2 ⟨rfl, hmF, gF⟩
          show x_X _ 41 [some (.inr (some 0)), some (.inl k), none, none] [.inl (fin9 M 0 (0, [1], [])).1] _ _
          exact ⟨_, _, xb_i dm_Ma_type_41 rfl, rfl, hmF, gr_w (gr_tr (gr_SA G) gF (fun _ _ e => e) (Nat.le_refl _) (Nat.le_refl _)) (fun _ _ e => e) (by omega) (by omega)⟩
    · change x_X _ 10 _ _ _ _
      refine xx (xs_iconst dm_Ma_type_10) ?_
      rw [show st_type M k = (2, M) by unfold st_type; rw [if_pos (by omega)]]
      exact ⟨_, _, xb_i dm_Ma_type_11 rfl, rfl, hm, gr_w (gr_SA G) (fun _ _ e => e) (by omega) (by omega)⟩
set_option maxHeartbeats 4000000 in
set_option maxRecDepth 100000 in
theorem ma_var {h : xH} {M : mS} {n : Int} (hg : gM M) (hm : cM h M) (hn : ir n) : x_Mx mm_Ma_var [.inr (some 0), .inl n] h (clP 250 1500 h (st_var M n)) := by
  refine xmx rfl (nl rfl) ?_
  have hm0 := hm
  have m1 := hm.1
  have G := gr_rf pS h
  show x_X _ 0 [some (.inr (some 0)), some (.inl n), none] [] _ _
  have hn2 := hn
  unfold ir at hn2
  have g6 := hg.2.2.2.2.2.1
  refine xx (xs_aload_n dm_Ma_var_0 rfl) ?_
  refine xx (xs_iconst dm_Ma_var_1) ?_
  refine xx (xs_iconst dm_Ma_var_2) ?_
  refine xcV (as := [.inl 0, .inl 0]) (rest := []) dm_Ma_var_3 lc_Ma_rowBelow lm_Ma_65 li_Ma_rowBelow (nr rfl rfl) rfl rfl m1 rfl (nl rfl) (ma_rowB (i := 0) hg hm rfl (by decide) (by decide)) ?_
  rintro r9 hx9 ⟨hhx9, hR⟩
  have hhx9 := hhx9.symm
  subst hhx9
  rcases hR with ⟨k0, a0, x0, hx0, e9, w0⟩ | ⟨k0, e9⟩
  · subst e9
    obtain ⟨ka0, kb0, kc0⟩ := kd_of hx0
    have hl0 := (List.getElem?_eq_some_iff.mp hx0).1
    have gx0 := gM_top hg hx0
    have w0_0 := w0
    show x_X _ 6 [some (.inr (some 0)), some (.inl n), none] [.inr (some a0)] _ _
    refine xx (xs_astore_n dm_Ma_var_6 (by decide)) ?_
    show x_X _ 7 [some (.inr (some 0)), some (.inl n), some (.inr (some a0))] [] _ _
    refine xx (xs_aload_n dm_Ma_var_7 rfl) ?_
    refine xx (xs_ifnonnull_t (tgt := 13) dm_Ma_var_8 rfl) ?_
    refine xx (xs_iload_n dm_Ma_var_13 rfl) ?_
    refine xx_if_lt (tgt := 23) dm_Ma_var_14 rfl hn (fun hc => ?_) (fun hc => ?_)
    · change x_X _ 23 _ _ _ _
      refine xx (xs_iconst dm_Ma_var_23) ?_
      rw [show st_var M n = (2, M) by unfold st_var; rw [if_neg (fun e => e k0), if_pos (by omega)]]
      exact ⟨_, _, xb_i dm_Ma_var_24 rfl, rfl, hm, gr_w (gr_SA G) (fun _ _ e => e) (by omega) (by omega)⟩
    · change x_X _ 17 _ _ _ _
      refine xx (xs_iload_n dm_Ma_var_17 rfl) ?_
      refine xx (xs_bipush dm_Ma_var_18 (by decide)) ?_
      refine xx_icmp_lt (tgt := 25) dm_Ma_var_20 rfl hn (by unfold ir; omega) (fun hc2 => ?_) (fun hc2 => ?_)
      · change x_X _ 25 _ _ _ _
        rw [show st_var M n = fin9 M 1 (1, (10 :: n :: x0.2.1).take 81, []) by unfold st_var st_leaf; rw [if_neg (fun e => e k0), if_neg (by omega), kb0]; exact (fin9_0 (Or.inl rfl) (by omega)).symm]
        refine xx (xs_aload_n dm_Ma_var_25 rfl) ?_
        refine xx (xs_iconst dm_Ma_var_26) ?_
        refine xx (xs_aload_n dm_Ma_var_27 rfl) ?_
        refine xx (xs_getf dm_Ma_var_28 lf_Ma_10 m1 rfl) ?_
        refine xx (xs_bipush dm_Ma_var_31 (by decide)) ?_
        refine xx (xs_iload_n dm_Ma_var_33 rfl) ?_
        refine xx (xs_aload_n dm_Ma_var_34 rfl) ?_
        refine xcV (as := [.inl 10, .inl n, .inr (some a0)]) (rest := [.inl 1, .inr (some 0)]) dm_Ma_var_35 lc_Sc_leaf lm_Ma_73 li_Sc_leaf (nr rfl rfl) rfl rfl (scP_c hm.2.1.1).choose_spec rfl (nl rfl) (sk_leaf hm (by unfold ir; omega) hn w0) ?_
        rintro _ h1 ⟨br, rfl, hm, vr, gr⟩
        have G := gr_tr G gr (fun _ _ e => e) (Nat.le_refl _) (Nat.le_refl _)
        have w0 := rwA_S w0_0 G
        have m1 := hm.1
        show x_X _ 38 [some (.inr (some 0)), some (.inl n), some (.inr (some a0))] [.inr (some br), .inl 1, .inr (some 0)] _ _
        refine xcV (as := [.inl 1, .inr (some br)]) (rest := []) dm_Ma_var_38 lc_Ma_finishTerm lm_Ma_77 li_Ma_finishTerm (nr rfl rfl) rfl rfl m1 rfl (nl rfl) (ma_fTm (n := 1) hg hm vr rfl (by decide)) ?_
        rintro _ h2 ⟨rfl, hmF, gF⟩
        show x_X _ 41 [some (.inr (some 0)), some (.inl n), some (.inr (some a0))] [.inl (fin9 M 1 (1, (10 :: n :: x0.2.1).take 81, [])).1] _ _
        exact ⟨_, _, xb_i dm_Ma_var_41 rfl, rfl, hmF, gr_w (gr_tr (gr_SA G) gF (fun _ _ e => e) (Nat.le_refl _) (Nat.le_refl _)) (fun _ _ e => e) (by omega) (by omega)⟩
      · change x_X _ 23 _ _ _ _
        refine xx (xs_iconst dm_Ma_var_23) ?_
        rw [show st_var M n = (2, M) by unfold st_var; rw [if_neg (fun e => e k0), if_pos (by omega)]]
        exact ⟨_, _, xb_i dm_Ma_var_24 rfl, rfl, hm, gr_w (gr_SA G) (fun _ _ e => e) (by omega) (by omega)⟩
  · subst e9
    show x_X _ 6 [some (.inr (some 0)), some (.inl n), none] [.inr none] _ _
    refine xx (xs_astore_n dm_Ma_var_6 (by decide)) ?_
    show x_X _ 7 [some (.inr (some 0)), some (.inl n), some (.inr none)] [] _ _
    refine xx (xs_aload_n dm_Ma_var_7 rfl) ?_
    refine xx (xs_ifnonnull_f dm_Ma_var_8) ?_
    refine xx (xs_iconst dm_Ma_var_11) ?_
    rw [show st_var M n = (1, M) by unfold st_var; rw [if_pos k0]]
    exact ⟨_, _, xb_i dm_Ma_var_12 rfl, rfl, hm, gr_w (gr_SA G) (fun _ _ e => e) (by omega) (by omega)⟩
set_option maxHeartbeats 4000000 in
set_option maxRecDepth 100000 in
theorem ma_constant {h : xH} {M : mS} {c : Int} (hg : gM M) (hm : cM h M) (hc0 : ir c) : x_Mx mm_Ma_constant [.inr (some 0), .inl c] h (clP 250 1500 h (st_const M c)) := by
  refine xmx rfl (nl rfl) ?_
  have hm0 := hm
  have m1 := hm.1
  have G := gr_rf pS h
  show x_X _ 0 [some (.inr (some 0)), some (.inl c), none] [] _ _
  have hc2 := hc0
  unfold ir at hc2
  have g6 := hg.2.2.2.2.2.1
  have g9 := hg.2.2.2.2.2.2.2.2.1
  refine xx (xs_iload_n dm_Ma_constant_0 rfl) ?_
  refine xx_if_lt (tgt := 12) dm_Ma_constant_1 rfl hc0 (fun hc => ?_) (fun hc => ?_)
  · change x_X _ 12 _ _ _ _
    refine xx (xs_iconst dm_Ma_constant_12) ?_
    rw [show st_const M c = (2, M) by unfold st_const; rw [if_neg (by omega), if_pos (by omega)]]
    exact ⟨_, _, xb_i dm_Ma_constant_13 rfl, rfl, hm, gr_w (gr_SA G) (fun _ _ e => e) (by omega) (by omega)⟩
  · change x_X _ 4 _ _ _ _
    refine xx (xs_iload_n dm_Ma_constant_4 rfl) ?_
    refine xx (xs_aload_n dm_Ma_constant_5 rfl) ?_
    refine xx (xs_getf dm_Ma_constant_6 lf_Ma_50 m1 rfl) ?_
    refine xx_icmp_le (tgt := 14) dm_Ma_constant_9 rfl hc0 (by unfold ir; omega) (fun hc4 => ?_) (fun hc4 => ?_)
    · change x_X _ 14 _ _ _ _
      refine xx (xs_iload_n dm_Ma_constant_14 rfl) ?_
      refine xx_if_eq (tgt := 42) dm_Ma_constant_15 rfl hc0 (fun hc5 => ?_) (fun hc5 => ?_)
      · change x_X _ 42 _ _ _ _
        refine xx (xs_aload_n dm_Ma_constant_42 rfl) ?_
        refine xx (xs_iconst dm_Ma_constant_43) ?_
        refine xx (xs_iconst dm_Ma_constant_44) ?_
        refine xcV (as := [.inl 0, .inl 0]) (rest := []) dm_Ma_constant_45 lc_Ma_rowBelow lm_Ma_65 li_Ma_rowBelow (nr rfl rfl) rfl rfl m1 rfl (nl rfl) (ma_rowB (i := 0) hg hm rfl (by decide) (by decide)) ?_
        rintro r9 hx9 ⟨hhx9, hR⟩
        have hhx9 := hhx9.symm
        subst hhx9
        rcases hR with ⟨k0, a0, x0, hx0, e9, w0⟩ | ⟨k0, e9⟩
        · subst e9
          obtain ⟨ka0, kb0, kc0⟩ := kd_of hx0
          have hl0 := (List.getElem?_eq_some_iff.mp hx0).1
          have gx0 := gM_top hg hx0
          have w0_0 := w0
          show x_X _ 48 [some (.inr (some 0)), some (.inl c), none] [.inr (some a0)] _ _
          rw [show st_const M c = fin9 M 1 (1, (11 :: 0 :: x0.2.1).take 81, []) by unfold st_const st_leaf; rw [if_pos (by omega), if_neg (fun e => e k0), kb0]; exact (fin9_0 (Or.inl rfl) (by omega)).symm]
          refine xx (xs_astore_n dm_Ma_constant_48 (by decide)) ?_
          show x_X _ 49 [some (.inr (some 0)), some (.inl c), some (.inr (some a0))] [] _ _
          refine xx (xs_aload_n dm_Ma_constant_49 rfl) ?_
          refine xx (xs_ifnonnull_t (tgt := 55) dm_Ma_constant_50 rfl) ?_
          refine xx (xs_aload_n dm_Ma_constant_55 rfl) ?_
          refine xx (xs_iconst dm_Ma_constant_56) ?_
          refine xx (xs_aload_n dm_Ma_constant_57 rfl) ?_
          refine xx (xs_getf dm_Ma_constant_58 lf_Ma_10 m1 rfl) ?_
          refine xx (xs_bipush dm_Ma_constant_61 (by decide)) ?_
          refine xx (xs_iconst dm_Ma_constant_63) ?_
          refine xx (xs_aload_n dm_Ma_constant_64 rfl) ?_
          refine xcV (as := [.inl 11, .inl 0, .inr (some a0)]) (rest := [.inl 1, .inr (some 0)]) dm_Ma_constant_65 lc_Sc_leaf lm_Ma_73 li_Sc_leaf (nr rfl rfl) rfl rfl (scP_c hm.2.1.1).choose_spec rfl (nl rfl) (sk_leaf hm (by unfold ir; omega) (by unfold ir; omega) w0) ?_
          rintro _ h1 ⟨br, rfl, hm, vr, gr⟩
          have G := gr_tr G gr (fun _ _ e => e) (Nat.le_refl _) (Nat.le_refl _)
          have w0 := rwA_S w0_0 G
          have m1 := hm.1
          show x_X _ 68 [some (.inr (some 0)), some (.inl c), some (.inr (some a0))] [.inr (some br), .inl 1, .inr (some 0)] _ _
          refine xcV (as := [.inl 1, .inr (some br)]) (rest := []) dm_Ma_constant_68 lc_Ma_finishTerm lm_Ma_77 li_Ma_finishTerm (nr rfl rfl) rfl rfl m1 rfl (nl rfl) (ma_fTm (n := 1) hg hm vr rfl (by decide)) ?_
          rintro _ h2 ⟨rfl, hmF, gF⟩
          show x_X _ 71 [some (.inr (some 0)), some (.inl c), some (.inr (some a0))] [.inl (fin9 M 1 (1, (11 :: 0 :: x0.2.1).take 81, [])).1] _ _
          exact ⟨_, _, xb_i dm_Ma_constant_71 rfl, rfl, hmF, gr_w (gr_tr (gr_SA G) gF (fun _ _ e => e) (Nat.le_refl _) (Nat.le_refl _)) (fun _ _ e => e) (by omega) (by omega)⟩
        · subst e9
          show x_X _ 48 [some (.inr (some 0)), some (.inl c), none] [.inr none] _ _
          refine xx (xs_astore_n dm_Ma_constant_48 (by decide)) ?_
          show x_X _ 49 [some (.inr (some 0)), some (.inl c), some (.inr none)] [] _ _
          refine xx (xs_aload_n dm_Ma_constant_49 rfl) ?_
          refine xx (xs_ifnonnull_f dm_Ma_constant_50) ?_
          refine xx (xs_iconst dm_Ma_constant_53) ?_
          rw [show st_const M c = (1, M) by unfold st_const; rw [if_pos (by omega), if_pos k0]]
          exact ⟨_, _, xb_i dm_Ma_constant_54 rfl, rfl, hm, gr_w (gr_SA G) (fun _ _ e => e) (by omega) (by omega)⟩
      · change x_X _ 18 _ _ _ _
        obtain ⟨qc, qc1, qc2, qc3⟩ := hm.2.2.2.2.2.2.1
        obtain ⟨ct, hct⟩ : ∃ ct, M.2.2.2.2.1[c.toNat - 1]? = some ct := ⟨_, List.getElem?_eq_getElem (by omega)⟩
        obtain ⟨b, hb, wb⟩ := qc3 (c.toNat - 1) ct hct
        have ect : cT M c = ct := by unfold cT; rw [List.getD_eq_getElem?_getD, hct]; rfl
        rw [show st_const M c = fin9 M 0 (1, (11 :: c :: ct).take 81, []) by
          unfold st_const
          rw [if_neg (by omega), if_neg (by omega), ect]
          by_cases h12 : M.1.length = 12
          · rw [if_pos h12]
            exact (ifc_f (fun e => by have := e.2; omega) _ _).symm
          · rw [if_neg h12]
            exact (fin9_0 (Or.inl rfl) (by omega)).symm]
        refine xx (xs_aload_n dm_Ma_constant_18 rfl) ?_
        refine xx (xs_iconst dm_Ma_constant_19) ?_
        refine xx (xs_aload_n dm_Ma_constant_20 rfl) ?_
        refine xx (xs_getf dm_Ma_constant_21 lf_Ma_10 m1 rfl) ?_
        refine xx (xs_bipush dm_Ma_constant_24 (by decide)) ?_
        refine xx (xs_iload_n dm_Ma_constant_26 rfl) ?_
        refine xx (xs_aload_n dm_Ma_constant_27 rfl) ?_
        refine xx (xs_getf dm_Ma_constant_28 lf_Ma_39 m1 rfl) ?_
        refine xx (xs_iload_n dm_Ma_constant_31 rfl) ?_
        refine xx (xs_iconst dm_Ma_constant_32) ?_
        refine xx (xs_isub dm_Ma_constant_33) ?_
        refine xx (xs_aald (x := (some b)) dm_Ma_constant_34 (by decide) qc1 (by omega) (by rw [show (c - 1).toNat = c.toNat - 1 by omega]; exact hb) (by omega)) ?_
        refine xcV (as := [.inl 11, .inl c, .inr (some b)]) (rest := [.inl 0, .inr (some 0)]) dm_Ma_constant_35 lc_Sc_leaf lm_Ma_73 li_Sc_leaf (nr rfl rfl) rfl rfl (scP_c hm.2.1.1).choose_spec rfl (nl rfl) (sk_leaf hm (by unfold ir; omega) hc0 wb) ?_
        rintro _ h1 ⟨br, rfl, hm, vr, gr⟩
        have G := gr_tr G gr (fun _ _ e => e) (Nat.le_refl _) (Nat.le_refl _)
        have m1 := hm.1
        show x_X _ 38 [some (.inr (some 0)), some (.inl c), none] [.inr (some br), .inl 0, .inr (some 0)] _ _
        refine xcV (as := [.inl 0, .inr (some br)]) (rest := []) dm_Ma_constant_38 lc_Ma_finishTerm lm_Ma_77 li_Ma_finishTerm (nr rfl rfl) rfl rfl m1 rfl (nl rfl) (ma_fTm (n := 0) hg hm vr rfl (by decide)) ?_
        rintro _ h2 ⟨rfl, hmF, gF⟩
        show x_X _ 41 [some (.inr (some 0)), some (.inl c), none] [.inl (fin9 M 0 (1, (11 :: c :: ct).take 81, [])).1] _ _
        exact ⟨_, _, xb_i dm_Ma_constant_41 rfl, rfl, hmF, gr_w (gr_tr (gr_SA G) gF (fun _ _ e => e) (Nat.le_refl _) (Nat.le_refl _)) (fun _ _ e => e) (by omega) (by omega)⟩
    · change x_X _ 12 _ _ _ _
      refine xx (xs_iconst dm_Ma_constant_12) ?_
      rw [show st_const M c = (2, M) by unfold st_const; rw [if_neg (by omega), if_pos (by omega)]]
      exact ⟨_, _, xb_i dm_Ma_constant_13 rfl, rfl, hm, gr_w (gr_SA G) (fun _ _ e => e) (by omega) (by omega)⟩
set_option maxHeartbeats 4000000 in
set_option maxRecDepth 100000 in
theorem ma_takes {h : xH} {M : mS} {a b : Nat} {f v : List Int} {R : Int} (hm : cM h M) (ha : rwA h a f) (hb : rwA h b v) (tf : isTy f) (tv : isTy v) (hR1 : (∃ d, f = 0 :: (v ++ d)) → R = 1) (hR0 : ¬ (∃ d, f = 0 :: (v ++ d)) → R = 0) : x_Mx mm_Ma_takesArgument [.inr (some 0), .inr (some a), .inr (some b)] h (fun r hf => r = some (.inl R) ∧ cM hf M ∧ gr pS 1 3 h hf) := by
  refine xmx rfl (nl rfl) ?_
  have hm0 := hm
  have m1 := hm.1
  have G := gr_rf pS h
  show x_X _ 0 [some (.inr (some 0)), some (.inr (some a)), some (.inr (some b))] [] _ _
  obtain ⟨af, ac⟩ := rwA_c ha
  have hn0 : ∀ s t, f = s :: t → ¬ s = 0 → R = 0 := fun s t e hs => hR0 (fun e2 => by obtain ⟨d, hd⟩ := e2; rw [e] at hd; simp at hd; exact hs hd.1)
  rcases isTy_inv tf with e | ⟨k, k1, k2, e⟩ | ⟨c, d, tc, td, e⟩
  · have r0 := hn0 1 [] e (by omega)
    subst r0
    refine xx (xs_aload_n dm_Ma_takesArgument_0 rfl) ?_
    refine xx (xs_iconst dm_Ma_takesArgument_1) ?_
    refine xcV (as := [.inl 0]) (rest := []) dm_Ma_takesArgument_2 lc_Ro_at lm_Ma_211 li_Ro_at (nr rfl rfl) rfl rfl ac rfl (nl rfl) (ro_at ha (by unfold ir; omega)) ?_
    rintro _ hx9 ⟨rfl, hhx9⟩
    have hhx9 := hhx9.symm
    subst hhx9
    show x_X _ 5 [some (.inr (some 0)), some (.inr (some a)), some (.inr (some b))] [.inl (atL f 0)] _ _
    rw [show atL f 0 = 1 by rw [e]; exact atL_0]
    show x_X _ 5 [some (.inr (some 0)), some (.inr (some a)), some (.inr (some b))] [.inl 1] _ _
    refine xx (xs_if_ne_t (tgt := 23) dm_Ma_takesArgument_5 rfl (by unfold ir; omega) (by omega)) ?_
    refine xx (xs_iconst dm_Ma_takesArgument_23) ?_
    exact ⟨_, _, xb_z dm_Ma_takesArgument_24 rfl (by omega), rfl, hm, gr_w G (fun _ _ e => e) (by omega) (by omega)⟩
  · have r0 := hn0 k [] e (by omega)
    subst r0
    refine xx (xs_aload_n dm_Ma_takesArgument_0 rfl) ?_
    refine xx (xs_iconst dm_Ma_takesArgument_1) ?_
    refine xcV (as := [.inl 0]) (rest := []) dm_Ma_takesArgument_2 lc_Ro_at lm_Ma_211 li_Ro_at (nr rfl rfl) rfl rfl ac rfl (nl rfl) (ro_at ha (by unfold ir; omega)) ?_
    rintro _ hx9 ⟨rfl, hhx9⟩
    have hhx9 := hhx9.symm
    subst hhx9
    show x_X _ 5 [some (.inr (some 0)), some (.inr (some a)), some (.inr (some b))] [.inl (atL f 0)] _ _
    rw [show atL f 0 = k by rw [e]; exact atL_0]
    show x_X _ 5 [some (.inr (some 0)), some (.inr (some a)), some (.inr (some b))] [.inl k] _ _
    refine xx (xs_if_ne_t (tgt := 23) dm_Ma_takesArgument_5 rfl (by unfold ir; omega) (by omega)) ?_
    refine xx (xs_iconst dm_Ma_takesArgument_23) ?_
    exact ⟨_, _, xb_z dm_Ma_takesArgument_24 rfl (by omega), rfl, hm, gr_w G (fun _ _ e => e) (by omega) (by omega)⟩
  · refine xx (xs_aload_n dm_Ma_takesArgument_0 rfl) ?_
    refine xx (xs_iconst dm_Ma_takesArgument_1) ?_
    refine xcV (as := [.inl 0]) (rest := []) dm_Ma_takesArgument_2 lc_Ro_at lm_Ma_211 li_Ro_at (nr rfl rfl) rfl rfl ac rfl (nl rfl) (ro_at ha (by unfold ir; omega)) ?_
    rintro _ hx9 ⟨rfl, hhx9⟩
    have hhx9 := hhx9.symm
    subst hhx9
    show x_X _ 5 [some (.inr (some 0)), some (.inr (some a)), some (.inr (some b))] [.inl (atL f 0)] _ _
    rw [show atL f 0 = 0 by rw [e]; exact atL_0]
    show x_X _ 5 [some (.inr (some 0)), some (.inr (some a)), some (.inr (some b))] [.inl 0] _ _
    refine xx (xs_if_ne_f (tgt := 23) dm_Ma_takesArgument_5 rfl (by unfold ir; omega) (by omega)) ?_
    refine xx (xs_aload_n dm_Ma_takesArgument_8 rfl) ?_
    have ha_0 := ha
    have hb_0 := hb
    refine xcV (as := []) (rest := []) dm_Ma_takesArgument_9 lc_Ro_functionArgument lm_Ma_253 li_Ro_functionArgument (nr rfl rfl) rfl rfl ac rfl (nl rfl) (x_Mq (ro_functionArgument ha e tc) (fun _ _ hh => mr_f hm hh)) ?_
    rintro _ h1 ⟨br, rfl, hm, vr, gr⟩
    have G := gr_tr G gr (fun _ _ e => e) (Nat.le_refl _) (Nat.le_refl _)
    have ha := rwA_S ha_0 G
    have hb := rwA_S hb_0 G
    have m1 := hm.1
    show x_X _ 12 [some (.inr (some 0)), some (.inr (some a)), some (.inr (some b))] [.inr (some br)] _ _
    refine xx (xs_aload_n dm_Ma_takesArgument_12 rfl) ?_
    obtain ⟨bf, bc⟩ := rwA_c vr
    refine xcV (as := [.inr (some b)]) (rest := []) dm_Ma_takesArgument_13 lc_Ro_same lm_Ma_158 li_Ro_same (nr rfl rfl) rfl rfl bc rfl (nl rfl) (ro_same vr hb (nn_ne (nn_ty tv))) ?_
    rintro _ hx9 ⟨rfl, hhx9⟩
    have hhx9 := hhx9.symm
    subst hhx9
    show x_X _ 16 [some (.inr (some 0)), some (.inr (some a)), some (.inr (some b))] [.inl (if c = v then 1 else 0)] _ _
    by_cases hcv : c = v
    · have r1 := hR1 ⟨d, by rw [e, hcv]⟩
      subst r1
      rw [if_pos hcv]
      show x_X _ 16 [some (.inr (some 0)), some (.inr (some a)), some (.inr (some b))] [.inl 1] _ _
      refine xx (xs_if_eq_f (tgt := 23) dm_Ma_takesArgument_16 rfl (by unfold ir; omega) (by omega)) ?_
      refine xx (xs_iconst dm_Ma_takesArgument_19) ?_
      refine xx (xs_goto (tgt := 24) dm_Ma_takesArgument_20 rfl) ?_
      exact ⟨_, _, xb_z dm_Ma_takesArgument_24 rfl (by omega), rfl, hm, gr_w G (fun _ _ e => e) (by omega) (by omega)⟩
    · have r1 := hR0 (fun e2 => by obtain ⟨d2, hd2⟩ := e2; rw [e] at hd2; exact hcv (isTy_fi tc tv hd2).1)
      subst r1
      rw [if_neg hcv]
      show x_X _ 16 [some (.inr (some 0)), some (.inr (some a)), some (.inr (some b))] [.inl 0] _ _
      refine xx (xs_if_eq_t (tgt := 23) dm_Ma_takesArgument_16 rfl (by unfold ir; omega) (by omega)) ?_
      refine xx (xs_iconst dm_Ma_takesArgument_23) ?_
      exact ⟨_, _, xb_z dm_Ma_takesArgument_24 rfl (by omega), rfl, hm, gr_w G (fun _ _ e => e) (by omega) (by omega)⟩
set_option maxHeartbeats 4000000 in
set_option maxRecDepth 100000 in
theorem ma_app {h : xH} {M : mS} (hg : gM M) (hm : cM h M) : x_Mx mm_Ma_app [.inr (some 0)] h (clP 250 1500 h (st_app M)) := by
  refine xmx rfl (nl rfl) ?_
  have hm0 := hm
  have m1 := hm.1
  have G := gr_rf pS h
  show x_X _ 0 [some (.inr (some 0)), none, none] [] _ _
  have g6 := hg.2.2.2.2.2.1
  refine xx (xs_aload_n dm_Ma_app_0 rfl) ?_
  refine xx (xs_iconst dm_Ma_app_1) ?_
  refine xx (xs_iconst dm_Ma_app_2) ?_
  refine xcV (as := [.inl 1, .inl 1]) (rest := []) dm_Ma_app_3 lc_Ma_rowBelow lm_Ma_65 li_Ma_rowBelow (nr rfl rfl) rfl rfl m1 rfl (nl rfl) (ma_rowB (i := 1) hg hm rfl (by decide) (by decide)) ?_
  rintro r9 hx9 ⟨hhx9, hR⟩
  have hhx9 := hhx9.symm
  subst hhx9
  rcases hR with ⟨k1, a1, x1, hx1, e9, w1⟩ | ⟨k1, e9⟩
  · subst e9
    obtain ⟨ka1, kb1, kc1⟩ := kd_of hx1
    have hl1 := (List.getElem?_eq_some_iff.mp hx1).1
    have gx1 := gM_top hg hx1
    have w1_0 := w1
    show x_X _ 6 [some (.inr (some 0)), none, none] [.inr (some a1)] _ _
    refine xx (xs_astore_n dm_Ma_app_6 (by decide)) ?_
    show x_X _ 7 [some (.inr (some 0)), some (.inr (some a1)), none] [] _ _
    refine xx (xs_aload_n dm_Ma_app_7 rfl) ?_
    refine xx (xs_iconst dm_Ma_app_8) ?_
    refine xx (xs_iconst dm_Ma_app_9) ?_
    refine xcV (as := [.inl 0, .inl 1]) (rest := []) dm_Ma_app_10 lc_Ma_rowBelow lm_Ma_65 li_Ma_rowBelow (nr rfl rfl) rfl rfl m1 rfl (nl rfl) (ma_rowB (i := 0) hg hm rfl (by decide) (by decide)) ?_
    rintro r9 hx9 ⟨hhx9, hR⟩
    have hhx9 := hhx9.symm
    subst hhx9
    rcases hR with ⟨k0, a0, x0, hx0, e9, w0⟩ | ⟨k0, e9⟩
    · subst e9
      obtain ⟨ka0, kb0, kc0⟩ := kd_of hx0
      have hl0 := (List.getElem?_eq_some_iff.mp hx0).1
      have gx0 := gM_top hg hx0
      have w0_0 := w0
      show x_X _ 13 [some (.inr (some 0)), some (.inr (some a1)), none] [.inr (some a0)] _ _
      obtain ⟨⟨ty1, t1⟩, l1, -⟩ := gO_1 gx1 (by rw [← ka1]; exact k1)
      obtain ⟨⟨ty0, t0⟩, l0, -⟩ := gO_1 gx0 (by rw [← ka0]; exact k0)
      have es : st_app M = ifc (∃ d, ty1 = 0 :: (ty0 ++ d)) (fin9 M 2 (1, (12 :: (x1.2.1 ++ x0.2.1)).take 81, [])) (2, M) := by
        unfold st_app
        rw [if_pos ⟨k0, k1⟩, kb1, kb0, tyO_of t1, tyO_of t0, fin9_0 (Or.inl rfl) (by omega)]
      rw [es]
      refine xx (xs_astore_n dm_Ma_app_13 (by decide)) ?_
      show x_X _ 14 [some (.inr (some 0)), some (.inr (some a1)), some (.inr (some a0))] [] _ _
      refine xx (xs_aload_n dm_Ma_app_14 rfl) ?_
      refine xx (xs_ifnull_f dm_Ma_app_15) ?_
      refine xx (xs_aload_n dm_Ma_app_18 rfl) ?_
      refine xx (xs_ifnonnull_t (tgt := 24) dm_Ma_app_19 rfl) ?_
      refine xx (xs_aload_n dm_Ma_app_24 rfl) ?_
      refine xx (xs_aload_n dm_Ma_app_25 rfl) ?_
      refine xx (xs_getf dm_Ma_app_26 lf_Ma_10 m1 rfl) ?_
      refine xx (xs_aload_n dm_Ma_app_29 rfl) ?_
      refine xcV (as := [.inr (some a1)]) (rest := [.inr (some 0)]) dm_Ma_app_30 lc_Sc_typeOf lm_Ma_80 li_Sc_typeOf (nr rfl rfl) rfl rfl (scP_c hm.2.1.1).choose_spec rfl (nl rfl) (sk_ty hm w1 l1 t1) ?_
      rintro _ h1 ⟨bf, rfl, hm, vf, gf⟩
      have G := gr_tr G gf (fun _ _ e => e) (Nat.le_refl _) (Nat.le_refl _)
      have w1 := rwA_S w1_0 G
      have w0 := rwA_S w0_0 G
      have m1 := hm.1
      show x_X _ 33 [some (.inr (some 0)), some (.inr (some a1)), some (.inr (some a0))] [.inr (some bf), .inr (some 0)] _ _
      refine xx (xs_aload_n dm_Ma_app_33 rfl) ?_
      refine xx (xs_getf dm_Ma_app_34 lf_Ma_10 m1 rfl) ?_
      refine xx (xs_aload_n dm_Ma_app_37 rfl) ?_
      refine xcV (as := [.inr (some a0)]) (rest := [.inr (some bf), .inr (some 0)]) dm_Ma_app_38 lc_Sc_typeOf lm_Ma_80 li_Sc_typeOf (nr rfl rfl) rfl rfl (scP_c hm.2.1.1).choose_spec rfl (nl rfl) (sk_ty hm w0 l0 t0) ?_
      rintro _ h2 ⟨bg, rfl, hm, vg, gg⟩
      have vf := rwA_S vf gg
      have G := gr_tr G gg (fun _ _ e => e) (Nat.le_refl _) (Nat.le_refl _)
      have w1 := rwA_S w1_0 G
      have w0 := rwA_S w0_0 G
      have m1 := hm.1
      show x_X _ 41 [some (.inr (some 0)), some (.inr (some a1)), some (.inr (some a0))] [.inr (some bg), .inr (some bf), .inr (some 0)] _ _
      by_cases hd : ∃ d, ty1 = 0 :: (ty0 ++ d)
      · rw [ifc_t hd]
        refine xcV (as := [.inr (some bf), .inr (some bg)]) (rest := []) dm_Ma_app_41 lc_Ma_takesArgument lm_Ma_84 li_Ma_takesArgument (nr rfl rfl) rfl rfl m1 rfl (nl rfl) (ma_takes (R := 1) hm vf vg (isTm_ty t1) (isTm_ty t0) (fun _ => rfl) (fun e => absurd hd e)) ?_
        rintro _ h3 ⟨rfl, hm, gt⟩
        have vf := rwA_S vf gt
        have vg := rwA_S vg gt
        have G := gr_tr G gt (fun _ _ e => e) (Nat.le_refl _) (Nat.le_refl _)
        have w1 := rwA_S w1_0 G
        have w0 := rwA_S w0_0 G
        have m1 := hm.1
        show x_X _ 44 [some (.inr (some 0)), some (.inr (some a1)), some (.inr (some a0))] [.inl 1] _ _
        refine xx (xs_if_ne_t (tgt := 49) dm_Ma_app_44 rfl (by unfold ir; omega) (by omega)) ?_
        refine xx (xs_aload_n dm_Ma_app_49 rfl) ?_
        refine xx (xs_iconst dm_Ma_app_50) ?_
        refine xx (xs_aload_n dm_Ma_app_51 rfl) ?_
        refine xx (xs_getf dm_Ma_app_52 lf_Ma_10 m1 rfl) ?_
        refine xx (xs_aload_n dm_Ma_app_55 rfl) ?_
        refine xx (xs_aload_n dm_Ma_app_56 rfl) ?_
        refine xcV (as := [.inr (some a1), .inr (some a0)]) (rest := [.inl 2, .inr (some 0)]) dm_Ma_app_57 lc_Sc_application lm_Ma_88 li_Sc_application (nr rfl rfl) rfl rfl (scP_c hm.2.1.1).choose_spec rfl (nl rfl) (sk_app hm w1 w0) ?_
        rintro _ h4 ⟨br, rfl, hm, vr, gr⟩
        have vf := rwA_S vf gr
        have vg := rwA_S vg gr
        have G := gr_tr G gr (fun _ _ e => e) (Nat.le_refl _) (Nat.le_refl _)
        have w1 := rwA_S w1_0 G
        have w0 := rwA_S w0_0 G
        have m1 := hm.1
        show x_X _ 60 [some (.inr (some 0)), some (.inr (some a1)), some (.inr (some a0))] [.inr (some br), .inl 2, .inr (some 0)] _ _
        refine xcV (as := [.inl 2, .inr (some br)]) (rest := []) dm_Ma_app_60 lc_Ma_finishTerm lm_Ma_77 li_Ma_finishTerm (nr rfl rfl) rfl rfl m1 rfl (nl rfl) (ma_fTm (n := 2) hg hm vr rfl (by decide)) ?_
        rintro _ h5 ⟨rfl, hmF, gF⟩
        show x_X _ 63 [some (.inr (some 0)), some (.inr (some a1)), some (.inr (some a0))] [.inl (fin9 M 2 (1, (12 :: (x1.2.1 ++ x0.2.1)).take 81, [])).1] _ _
        exact ⟨_, _, xb_i dm_Ma_app_63 rfl, rfl, hmF, gr_w (gr_tr (gr_SA G) gF (fun _ _ e => e) (Nat.le_refl _) (Nat.le_refl _)) (fun _ _ e => e) (by omega) (by omega)⟩
      · rw [ifc_f hd]
        refine xcV (as := [.inr (some bf), .inr (some bg)]) (rest := []) dm_Ma_app_41 lc_Ma_takesArgument lm_Ma_84 li_Ma_takesArgument (nr rfl rfl) rfl rfl m1 rfl (nl rfl) (ma_takes (R := 0) hm vf vg (isTm_ty t1) (isTm_ty t0) (fun e => absurd e hd) (fun _ => rfl)) ?_
        rintro _ h3 ⟨rfl, hm, gt⟩
        have vf := rwA_S vf gt
        have vg := rwA_S vg gt
        have G := gr_tr G gt (fun _ _ e => e) (Nat.le_refl _) (Nat.le_refl _)
        have w1 := rwA_S w1_0 G
        have w0 := rwA_S w0_0 G
        have m1 := hm.1
        show x_X _ 44 [some (.inr (some 0)), some (.inr (some a1)), some (.inr (some a0))] [.inl 0] _ _
        refine xx (xs_if_ne_f (tgt := 49) dm_Ma_app_44 rfl (by unfold ir; omega) (by omega)) ?_
        refine xx (xs_iconst dm_Ma_app_47) ?_
        exact ⟨_, _, xb_i dm_Ma_app_48 rfl, rfl, hm, gr_w (gr_SA G) (fun _ _ e => e) (by omega) (by omega)⟩
    · subst e9
      show x_X _ 13 [some (.inr (some 0)), some (.inr (some a1)), none] [.inr none] _ _
      refine xx (xs_astore_n dm_Ma_app_13 (by decide)) ?_
      show x_X _ 14 [some (.inr (some 0)), some (.inr (some a1)), some (.inr none)] [] _ _
      refine xx (xs_aload_n dm_Ma_app_14 rfl) ?_
      refine xx (xs_ifnull_f dm_Ma_app_15) ?_
      refine xx (xs_aload_n dm_Ma_app_18 rfl) ?_
      refine xx (xs_ifnonnull_f dm_Ma_app_19) ?_
      refine xx (xs_iconst dm_Ma_app_22) ?_
      rw [show st_app M = (1, M) by unfold st_app; rw [if_neg (fun e => k0 e.1)]]
      exact ⟨_, _, xb_i dm_Ma_app_23 rfl, rfl, hm, gr_w (gr_SA G) (fun _ _ e => e) (by omega) (by omega)⟩
  · subst e9
    show x_X _ 6 [some (.inr (some 0)), none, none] [.inr none] _ _
    refine xx (xs_astore_n dm_Ma_app_6 (by decide)) ?_
    show x_X _ 7 [some (.inr (some 0)), some (.inr none), none] [] _ _
    refine xx (xs_aload_n dm_Ma_app_7 rfl) ?_
    refine xx (xs_iconst dm_Ma_app_8) ?_
    refine xx (xs_iconst dm_Ma_app_9) ?_
    refine xcV (as := [.inl 0, .inl 1]) (rest := []) dm_Ma_app_10 lc_Ma_rowBelow lm_Ma_65 li_Ma_rowBelow (nr rfl rfl) rfl rfl m1 rfl (nl rfl) (ma_rowB (i := 0) hg hm rfl (by decide) (by decide)) ?_
    rintro r9 hx9 ⟨hhx9, hR⟩
    have hhx9 := hhx9.symm
    subst hhx9
    rcases hR with ⟨k0, a0, x0, hx0, e9, w0⟩ | ⟨k0, e9⟩
    · subst e9
      obtain ⟨ka0, kb0, kc0⟩ := kd_of hx0
      have hl0 := (List.getElem?_eq_some_iff.mp hx0).1
      have gx0 := gM_top hg hx0
      have w0_0 := w0
      show x_X _ 13 [some (.inr (some 0)), some (.inr none), none] [.inr (some a0)] _ _
      refine xx (xs_astore_n dm_Ma_app_13 (by decide)) ?_
      show x_X _ 14 [some (.inr (some 0)), some (.inr none), some (.inr (some a0))] [] _ _
      refine xx (xs_aload_n dm_Ma_app_14 rfl) ?_
      refine xx (xs_ifnull_t (tgt := 22) dm_Ma_app_15 rfl) ?_
      refine xx (xs_iconst dm_Ma_app_22) ?_
      rw [show st_app M = (1, M) by unfold st_app; rw [if_neg (fun e => k1 e.2)]]
      exact ⟨_, _, xb_i dm_Ma_app_23 rfl, rfl, hm, gr_w (gr_SA G) (fun _ _ e => e) (by omega) (by omega)⟩
    · subst e9
      show x_X _ 13 [some (.inr (some 0)), some (.inr none), none] [.inr none] _ _
      refine xx (xs_astore_n dm_Ma_app_13 (by decide)) ?_
      show x_X _ 14 [some (.inr (some 0)), some (.inr none), some (.inr none)] [] _ _
      refine xx (xs_aload_n dm_Ma_app_14 rfl) ?_
      refine xx (xs_ifnull_t (tgt := 22) dm_Ma_app_15 rfl) ?_
      refine xx (xs_iconst dm_Ma_app_22) ?_
      rw [show st_app M = (1, M) by unfold st_app; rw [if_neg (fun e => k1 e.2)]]
      exact ⟨_, _, xb_i dm_Ma_app_23 rfl, rfl, hm, gr_w (gr_SA G) (fun _ _ e => e) (by omega) (by omega)⟩
set_option maxHeartbeats 4000000 in
set_option maxRecDepth 100000 in
theorem ma_abs {h : xH} {M : mS} (hg : gM M) (hm : cM h M) : x_Mx mm_Ma_abs [.inr (some 0)] h (clP 250 1500 h (st_abs M)) := by
  refine xmx rfl (nl rfl) ?_
  have hm0 := hm
  have m1 := hm.1
  have G := gr_rf pS h
  show x_X _ 0 [some (.inr (some 0)), none, none] [] _ _
  have g6 := hg.2.2.2.2.2.1
  refine xx (xs_aload_n dm_Ma_abs_0 rfl) ?_
  refine xx (xs_iconst dm_Ma_abs_1) ?_
  refine xcV (as := [.inl 1]) (rest := []) dm_Ma_abs_2 lc_Ma_variableBelow lm_Ma_91 li_Ma_variableBelow (nr rfl rfl) rfl rfl m1 rfl (nl rfl) (ma_varB (i := 1) hg hm rfl (by decide)) ?_
  rintro r9 hx9 ⟨hhx9, hR⟩
  have hhx9 := hhx9.symm
  subst hhx9
  rcases hR with ⟨k1, a1, x1, hx1, e9, w1⟩ | ⟨k1, e9⟩
  · subst e9
    obtain ⟨ka1, kb1, kc1⟩ := kd_of hx1
    have hl1 := (List.getElem?_eq_some_iff.mp hx1).1
    have gx1 := gM_top hg hx1
    have w1_0 := w1
    show x_X _ 5 [some (.inr (some 0)), none, none] [.inr (some a1)] _ _
    refine xx (xs_astore_n dm_Ma_abs_5 (by decide)) ?_
    show x_X _ 6 [some (.inr (some 0)), some (.inr (some a1)), none] [] _ _
    refine xx (xs_aload_n dm_Ma_abs_6 rfl) ?_
    refine xx (xs_iconst dm_Ma_abs_7) ?_
    refine xx (xs_iconst dm_Ma_abs_8) ?_
    refine xcV (as := [.inl 0, .inl 1]) (rest := []) dm_Ma_abs_9 lc_Ma_rowBelow lm_Ma_65 li_Ma_rowBelow (nr rfl rfl) rfl rfl m1 rfl (nl rfl) (ma_rowB (i := 0) hg hm rfl (by decide) (by decide)) ?_
    rintro r9 hx9 ⟨hhx9, hR⟩
    have hhx9 := hhx9.symm
    subst hhx9
    rcases hR with ⟨k0, a0, x0, hx0, e9, w0⟩ | ⟨k0, e9⟩
    · subst e9
      obtain ⟨ka0, kb0, kc0⟩ := kd_of hx0
      have hl0 := (List.getElem?_eq_some_iff.mp hx0).1
      have gx0 := gM_top hg hx0
      have w0_0 := w0
      show x_X _ 12 [some (.inr (some 0)), some (.inr (some a1)), none] [.inr (some a0)] _ _
      obtain ⟨⟨ty0, t0⟩, l0, -⟩ := gO_1 gx0 (by rw [← ka0]; exact k0)
      obtain ⟨n, c, ev, tc, n0, n7⟩ := vb_of hg hx1 k1
      rw [show st_abs M = fin9 M 2 (1, (13 :: (c ++ absC (10 :: n :: c) x0.2.1 ([], 1) 0)).take 81, []) by
        unfold st_abs
        rw [ifc_t ⟨k1, k0⟩, kb1, kb0, ev]
        exact (fin9_0 (Or.inl rfl) (by omega)).symm]
      have w1 : rwA h a1 (10 :: n :: c) := by rw [← show x1.2.1 = 10 :: n :: c from ev]; exact w1
      refine xx (xs_astore_n dm_Ma_abs_12 (by decide)) ?_
      show x_X _ 13 [some (.inr (some 0)), some (.inr (some a1)), some (.inr (some a0))] [] _ _
      refine xx (xs_aload_n dm_Ma_abs_13 rfl) ?_
      refine xx (xs_ifnull_f dm_Ma_abs_14) ?_
      refine xx (xs_aload_n dm_Ma_abs_17 rfl) ?_
      refine xx (xs_ifnonnull_t (tgt := 23) dm_Ma_abs_18 rfl) ?_
      refine xx (xs_aload_n dm_Ma_abs_23 rfl) ?_
      refine xx (xs_iconst dm_Ma_abs_24) ?_
      refine xx (xs_aload_n dm_Ma_abs_25 rfl) ?_
      refine xx (xs_getf dm_Ma_abs_26 lf_Ma_10 m1 rfl) ?_
      refine xx (xs_aload_n dm_Ma_abs_29 rfl) ?_
      refine xx (xs_aload_n dm_Ma_abs_30 rfl) ?_
      refine xcV (as := [.inr (some a1), .inr (some a0)]) (rest := [.inl 2, .inr (some 0)]) dm_Ma_abs_31 lc_Sc_abstraction lm_Ma_94 li_Sc_abstraction (nr rfl rfl) rfl rfl (scP_c hm.2.1.1).choose_spec rfl (nl rfl) (sk_abs hm w0 w1 tc ⟨n0, n7⟩ l0) ?_
      rintro _ h1 ⟨br, rfl, hm, vr, gr⟩
      have G := gr_tr G gr (fun _ _ e => e) (Nat.le_refl _) (Nat.le_refl _)
      have w1 := rwA_S w1_0 G
      have w0 := rwA_S w0_0 G
      have m1 := hm.1
      show x_X _ 34 [some (.inr (some 0)), some (.inr (some a1)), some (.inr (some a0))] [.inr (some br), .inl 2, .inr (some 0)] _ _
      refine xcV (as := [.inl 2, .inr (some br)]) (rest := []) dm_Ma_abs_34 lc_Ma_finishTerm lm_Ma_77 li_Ma_finishTerm (nr rfl rfl) rfl rfl m1 rfl (nl rfl) (ma_fTm (n := 2) hg hm vr rfl (by decide)) ?_
      rintro _ h2 ⟨rfl, hmF, gF⟩
      show x_X _ 37 [some (.inr (some 0)), some (.inr (some a1)), some (.inr (some a0))] [.inl (fin9 M 2 (1, (13 :: (c ++ absC (10 :: n :: c) x0.2.1 ([], 1) 0)).take 81, [])).1] _ _
      exact ⟨_, _, xb_i dm_Ma_abs_37 rfl, rfl, hmF, gr_w (gr_tr (gr_SA G) gF (fun _ _ e => e) (Nat.le_refl _) (Nat.le_refl _)) (fun _ _ e => e) (by omega) (by omega)⟩
    · subst e9
      show x_X _ 12 [some (.inr (some 0)), some (.inr (some a1)), none] [.inr none] _ _
      refine xx (xs_astore_n dm_Ma_abs_12 (by decide)) ?_
      show x_X _ 13 [some (.inr (some 0)), some (.inr (some a1)), some (.inr none)] [] _ _
      refine xx (xs_aload_n dm_Ma_abs_13 rfl) ?_
      refine xx (xs_ifnull_f dm_Ma_abs_14) ?_
      refine xx (xs_aload_n dm_Ma_abs_17 rfl) ?_
      refine xx (xs_ifnonnull_f dm_Ma_abs_18) ?_
      refine xx (xs_iconst dm_Ma_abs_21) ?_
      rw [show st_abs M = (1, M) from ifc_f (fun e => k0 e.2) _ _]
      exact ⟨_, _, xb_i dm_Ma_abs_22 rfl, rfl, hm, gr_w (gr_SA G) (fun _ _ e => e) (by omega) (by omega)⟩
  · subst e9
    show x_X _ 5 [some (.inr (some 0)), none, none] [.inr none] _ _
    refine xx (xs_astore_n dm_Ma_abs_5 (by decide)) ?_
    show x_X _ 6 [some (.inr (some 0)), some (.inr none), none] [] _ _
    refine xx (xs_aload_n dm_Ma_abs_6 rfl) ?_
    refine xx (xs_iconst dm_Ma_abs_7) ?_
    refine xx (xs_iconst dm_Ma_abs_8) ?_
    refine xcV (as := [.inl 0, .inl 1]) (rest := []) dm_Ma_abs_9 lc_Ma_rowBelow lm_Ma_65 li_Ma_rowBelow (nr rfl rfl) rfl rfl m1 rfl (nl rfl) (ma_rowB (i := 0) hg hm rfl (by decide) (by decide)) ?_
    rintro r9 hx9 ⟨hhx9, hR⟩
    have hhx9 := hhx9.symm
    subst hhx9
    rcases hR with ⟨k0, a0, x0, hx0, e9, w0⟩ | ⟨k0, e9⟩
    · subst e9
      obtain ⟨ka0, kb0, kc0⟩ := kd_of hx0
      have hl0 := (List.getElem?_eq_some_iff.mp hx0).1
      have gx0 := gM_top hg hx0
      have w0_0 := w0
      show x_X _ 12 [some (.inr (some 0)), some (.inr none), none] [.inr (some a0)] _ _
      refine xx (xs_astore_n dm_Ma_abs_12 (by decide)) ?_
      show x_X _ 13 [some (.inr (some 0)), some (.inr none), some (.inr (some a0))] [] _ _
      refine xx (xs_aload_n dm_Ma_abs_13 rfl) ?_
      refine xx (xs_ifnull_t (tgt := 21) dm_Ma_abs_14 rfl) ?_
      refine xx (xs_iconst dm_Ma_abs_21) ?_
      rw [show st_abs M = (1, M) from ifc_f (fun e => k1 e.1) _ _]
      exact ⟨_, _, xb_i dm_Ma_abs_22 rfl, rfl, hm, gr_w (gr_SA G) (fun _ _ e => e) (by omega) (by omega)⟩
    · subst e9
      show x_X _ 12 [some (.inr (some 0)), some (.inr none), none] [.inr none] _ _
      refine xx (xs_astore_n dm_Ma_abs_12 (by decide)) ?_
      show x_X _ 13 [some (.inr (some 0)), some (.inr none), some (.inr none)] [] _ _
      refine xx (xs_aload_n dm_Ma_abs_13 rfl) ?_
      refine xx (xs_ifnull_t (tgt := 21) dm_Ma_abs_14 rfl) ?_
      refine xx (xs_iconst dm_Ma_abs_21) ?_
      rw [show st_abs M = (1, M) from ifc_f (fun e => k1 e.1) _ _]
      exact ⟨_, _, xb_i dm_Ma_abs_22 rfl, rfl, hm, gr_w (gr_SA G) (fun _ _ e => e) (by omega) (by omega)⟩
