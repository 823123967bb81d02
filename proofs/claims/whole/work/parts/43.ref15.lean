set_option maxHeartbeats 4000000 in
set_option maxRecDepth 100000 in
theorem re_constant {q : rS} {M : mS} {c : Int} (hg : gM M) (hR : Rl q M) (hc0 : ir c) : rM mm_Re_constant [.inl c] q (fun r q' => r = some (.inl (st_const M c).1) ∧ Rl q' (st_const M c).2) := by
  refine rm rfl (nl rfl) (fun E => ?_)
  have g6 := hg.2.2.2.2.2.1
  have g7 := hg.2.2.2.2.2.2.1
  have g8 := hg.2.2.2.2.2.2.2.1
  have g9 := hg.2.2.2.2.2.2.2.2.1
  have g10 := hg.2.2.2.2.2.2.2.2.2
  have r1 := hR.1
  have r4 : q 6 1 = (M.2.2.1.length : Int) := hR.2.2.2.1
  have r6 : q 6 2 = (M.2.2.2.1.length : Int) := hR.2.2.2.2.2.1
  have r8 : q 6 3 = (M.2.2.2.2.1.length : Int) := hR.2.2.2.2.2.2.2.1
  have r10 : q 6 4 = (M.2.2.2.2.2 : Int) := hR.2.2.2.2.2.2.2.2.2.1
  have hlk := hR.2.2.2.2.2.2.2.2.2.2
  show rX E _ 0 [some (.inr (some E.1.length)), some (.inl c)] [] _ _
  refine rx (xs_iload_n dm_Re_constant_0 rfl) ?_
  refine xx_if_ne (tgt := 24) dm_Re_constant_1 rfl hc0 (fun hc => ?_) (fun hc => ?_)
  · change rX E _ 24 _ _ _ _
    refine rx (xs_iload_n dm_Re_constant_24 rfl) ?_
    refine xx_if_lt (tgt := 36) dm_Re_constant_25 rfl hc0 (fun hc2 => ?_) (fun hc2 => ?_)
    · change rX E _ 36 _ _ _ _
      refine rx (xs_iconst dm_Re_constant_36) ?_
      exact rri dm_Re_constant_37 rfl ⟨vi (by rw [st_const, if_neg hc, if_pos (Or.inl hc2)]), by rw [st_const, if_neg hc, if_pos (Or.inl hc2)]; exact hR⟩
    · change rX E _ 28 _ _ _ _
      refine rx (xs_iload_n dm_Re_constant_28 rfl) ?_
      refine rx (xs_aload_n dm_Re_constant_29 rfl) ?_
      refine rx (rg (v := .inl (q 6 3)) dm_Re_constant_30 lf_Re_103 rfl) ?_
      refine xx_icmp_le (tgt := 38) dm_Re_constant_33 rfl hc0 (by unfold ir; omega) (fun hc3 => ?_) (fun hc3 => ?_)
      · change rX E _ 38 _ _ _ _
        have hr : ¬ (c < 0 ∨ (M.2.2.2.2.1.length : Int) < c) := by omega
        refine rx (xs_aload_n dm_Re_constant_38 rfl) ?_
        refine rx (rg (v := .inl (q 6 0)) dm_Re_constant_39 lf_Re_79 rfl) ?_
        refine rx (xs_bipush dm_Re_constant_42 (by decide)) ?_
        refine xx_icmp_ne (tgt := 49) dm_Re_constant_44 rfl (by unfold ir; omega) (by unfold ir; omega) (fun hc4 => ?_) (fun hc4 => ?_)
        · change rX E _ 49 _ _ _ _
          obtain ⟨i, hi⟩ : ∃ i : Nat, c = (i : Int) + 1 := ⟨(c - 1).toNat, by omega⟩
          obtain ⟨y, hy⟩ : ∃ y, M.2.2.2.2.1[i]? = some y := ⟨_, List.getElem?_eq_getElem (by omega)⟩
          obtain ⟨c1, c2⟩ := hR.2.2.2.2.2.2.2.2.1 i y hy
          have hyl := (hg.2.2.2.2.1 y (List.mem_of_getElem? hy)).2
          have hcT : cT M c = y := by unfold cT; rw [show c.toNat - 1 = i by omega, List.getD_eq_getElem?_getD, hy]; rfl
          refine rx (xs_aload_n dm_Re_constant_49 rfl) ?_
          refine rcV (as := []) (rest := []) dm_Re_constant_50 lc_Re_begin lm_Re_88 li_Re_begin (nr rfl rfl) rfl rfl rfl (nl rfl) (re_begin) ?_
          rintro _ _ ⟨rfl, rfl⟩
          show rX E _ 53 [some (.inr (some E.1.length)), some (.inl c)] [] _ _
          refine rx (xs_aload_n dm_Re_constant_53 rfl) ?_
          refine rx (rg (v := .inr (some (rA E 2))) dm_Re_constant_54 lf_Re_16 rfl) ?_
          refine rx (xs_bipush dm_Re_constant_57 (by decide)) ?_
          refine rx (xs_iconst dm_Re_constant_59) ?_
          refine rx (rtn 2 28 (by decide) dm_Re_constant_60 (by omega) (by show _ < ((30 : Nat) : Int); omega) rfl) ?_
          change rX E _ _ _ _ (bgk q 1) _
          have b5 := bgk_5 q 1
          have fb := frM_bgk q 1
          have hs5 : 5200 ≤ 5200 := Nat.le_refl _
          have k28 := bgk_2 q 1
          have h28 := hy0 (bgk_3 q 1)
          have g28 := bgk_6 q 1
          have lkb := lok_bgk 1 hlk
          have o1 := em_out (bgk q 1) 11
          have o2 := em_out (em (bgk q 1) 11) c
          refine rx (xs_aload_n dm_Re_constant_61 rfl) ?_
          refine rx (xs_bipush dm_Re_constant_62 (by decide)) ?_
          refine rcV (as := [.inl 11]) (rest := []) dm_Re_constant_64 lc_Re_emit lm_Re_32 li_Re_emit (nr rfl rfl) rfl rfl rfl (nl rfl) (re_emit (x := 11) (by omega) (by omega)) ?_
          rintro _ _ ⟨rfl, rfl⟩
          show rX E _ 67 [some (.inr (some E.1.length)), some (.inl c)] [] _ _
          refine rx (xs_aload_n dm_Re_constant_67 rfl) ?_
          refine rx (xs_iload_n dm_Re_constant_68 rfl) ?_
          refine rcV (as := [.inl c]) (rest := []) dm_Re_constant_69 lc_Re_emit lm_Re_32 li_Re_emit (nr rfl rfl) rfl rfl rfl (nl rfl) (re_emit (x := c) (by omega) (by omega)) ?_
          rintro _ _ ⟨rfl, rfl⟩
          show rX E _ 72 [some (.inr (some E.1.length)), some (.inl c)] [] _ _
          have f2 : frM q (em (em (bgk q 1) 11) c) := frM_tr fb (frM_emL (l := [11, c]) (by omega))
          have o3 := emL_out (em (em (bgk q 1) 11) c) y
          refine rx (xs_aload_n dm_Re_constant_72 rfl) ?_
          refine rx (xs_sipush dm_Re_constant_73 (by decide)) ?_
          refine rx (xs_bipush dm_Re_constant_76 (by decide)) ?_
          refine rx (xs_iload_n dm_Re_constant_78 rfl) ?_
          refine rx (xs_imul dm_Re_constant_79) ?_
          refine rx (xs_iadd dm_Re_constant_80) ?_
          refine rx (xs_sipush dm_Re_constant_81 (by decide)) ?_
          refine rx (xs_bipush dm_Re_constant_84 (by decide)) ?_
          refine rx (xs_iload_n dm_Re_constant_86 rfl) ?_
          refine rx (xs_imul dm_Re_constant_87) ?_
          refine rx (xs_iadd dm_Re_constant_88) ?_
          refine rx (xs_aload_n dm_Re_constant_89 rfl) ?_
          refine rx (rg (v := .inr (some (rA E 4))) dm_Re_constant_90 lf_Re_22 rfl) ?_
          refine rx (xs_iload_n dm_Re_constant_93 rfl) ?_
          refine rx (rlv 4 (y.length : Int) (by decide) dm_Re_constant_94 (by omega) (by show _ < ((7 : Nat) : Int); omega) (by rw [show c.toNat = i + 1 by omega, f2 4 _ (by unfold tch; omega) (by omega) (by omega) (by omega)]; exact c1)) ?_
          refine rx (xs_iadd dm_Re_constant_95) ?_
          refine rcV (as := [.inl (4800 + (40 * c)), .inl ((4800 + (40 * c)) + (y.length : Int))]) (rest := []) dm_Re_constant_96 lc_Re_emitRow lm_Re_43 li_Re_emitRow (nr rfl rfl) rfl rfl rfl (nl rfl) (re_emitRow (p := 4800 + 40 * (i + 1)) (l := y) (frM_sg f2 c2 (by omega)) (by omega) (by omega) (by omega) (by omega)) ?_
          rintro _ _ ⟨rfl, rfl⟩
          show rX E _ 99 [some (.inr (some E.1.length)), some (.inl c)] [] _ _
          change rX E _ _ _ _ (emL (bgk q 1) (11 :: c :: y)) _
          refine rx (xs_aload_n dm_Re_constant_99 rfl) ?_
          refine rx (xs_iconst dm_Re_constant_100) ?_
          refine rx (xs_sipush dm_Re_constant_101 (by decide)) ?_
          refine rcV (as := [.inl 0, .inl 5200]) (rest := []) dm_Re_constant_104 lc_Re_part lm_Re_66 li_Re_part (nr rfl rfl) rfl rfl rfl (nl rfl) (re_pa (s := 5200) (n := (11 :: c :: y).length) (by omega) (by rw [emL_out, b5] <;> first | rfl | omega) hs5 (by simp <;> omega)) ?_
          rintro _ _ ⟨rfl, rfl⟩
          show rX E _ 107 [some (.inr (some E.1.length)), some (.inl c)] [] _ _
          refine rx (xs_aload_n dm_Re_constant_107 rfl) ?_
          refine rx (xs_iconst dm_Re_constant_108) ?_
          have fall : frM q (emL (bgk q 1) (11 :: c :: y)) := frM_tr fb (frM_emL (by omega))
          have key := pa_ok (q := emL (bgk q 1) (11 :: c :: y)) (s := 5200) (l := 11 :: c :: y) (k := 1) (hs := []) (emL_sg (by omega) b5) (by rw [emL_a (by omega) (by omega)]; exact k28) (emL_h (by omega) h28) (lok_emL lkb)
          rw [emL_s (by omega), g28] at key
          have fpa : frM q (paF (emL (bgk q 1) (11 :: c :: y)) 5200 (11 :: c :: y).length) := frM_tr fall (frM_part (by decide))
          refine rcV (as := [.inl 0]) (rest := []) dm_Re_constant_109 lc_Re_done lm_Re_91 li_Re_done (nr rfl rfl) rfl rfl rfl (nl rfl) (re_done (n := 0) (x := (1, 11 :: c :: y, [])) (b := decide (40 < (11 :: c :: y).length)) hg (Rl_fr hg hR fpa key.2.1) rfl (by omega) (by omega) (by rw [key.2.2]; by_cases hh : 40 < (11 :: c :: y).length <;> simp only [hh, bI] <;> simp) (fun hh => key.1 (by simp only [decide_eq_false_iff_not] at hh; omega))) ?_
          rintro _ q9 ⟨rfl, hR9⟩
          rw [show st_const M c = fi M 0 (1, 11 :: c :: y, []) (decide (40 < (11 :: c :: y).length)) by rw [st_const, if_neg hc, if_neg hr, if_neg (by omega), hcT]]
          show rX E _ 112 [some (.inr (some E.1.length)), some (.inl c)] [.inl (fi M 0 (1, 11 :: c :: y, []) (decide (40 < (11 :: c :: y).length))).1] _ _
          exact rri dm_Re_constant_112 rfl ⟨rfl, hR9⟩
        · change rX E _ 47 _ _ _ _
          refine rx (xs_iconst dm_Re_constant_47) ?_
          exact rri dm_Re_constant_48 rfl ⟨vi (by rw [st_const, if_neg hc, if_neg hr, if_pos (by omega)]), by rw [st_const, if_neg hc, if_neg hr, if_pos (by omega)]; exact hR⟩
      · change rX E _ 36 _ _ _ _
        refine rx (xs_iconst dm_Re_constant_36) ?_
        exact rri dm_Re_constant_37 rfl ⟨vi (by rw [st_const, if_neg hc, if_pos (Or.inr (by omega))]), by rw [st_const, if_neg hc, if_pos (Or.inr (by omega))]; exact hR⟩
  · change rX E _ 4 _ _ _ _
    have i0 := (kd_ir hg 0).1
    refine rx (xs_aload_n dm_Re_constant_4 rfl) ?_
    refine rx (xs_iconst dm_Re_constant_5) ?_
    refine rcV (as := [.inl 0]) (rest := []) dm_Re_constant_6 lc_Re_top lm_Re_85 li_Re_top (nr rfl rfl) rfl rfl rfl (nl rfl) (re_top' (i := 0) hg hR rfl (by decide)) ?_
    rintro _ q1 ⟨rfl, hq1⟩
    have hq1 := hq1.symm
    subst hq1
    show rX E _ 9 [some (.inr (some E.1.length)), some (.inl c)] [.inl (kd M 0)] _ _
    refine xx_if_eq (tgt := 16) dm_Re_constant_9 rfl i0 (fun hc2 => ?_) (fun hc2 => ?_)
    · change rX E _ 16 _ _ _ _
      refine rx (xs_aload_n dm_Re_constant_16 rfl) ?_
      refine rx (xs_bipush dm_Re_constant_17 (by decide)) ?_
      refine rx (xs_iconst dm_Re_constant_19) ?_
      refine rcV (as := [.inl 11, .inl 0]) (rest := []) dm_Re_constant_20 lc_Re_leaf lm_Re_100 li_Re_leaf (nr rfl rfl) rfl rfl rfl (nl rfl) (re_leaf hg hR hc2) ?_
      rintro _ q9 ⟨rfl, hR9⟩
      show rX E _ 23 [some (.inr (some E.1.length)), some (.inl c)] [.inl (st_leaf M 11 0).1] _ _
      rw [show st_const M c = st_leaf M 11 0 by rw [st_const, if_pos hc, if_neg (fun h => h hc2)]]
      exact rri dm_Re_constant_23 rfl ⟨rfl, hR9⟩
    · change rX E _ 12 _ _ _ _
      refine rx (xs_iconst dm_Re_constant_12) ?_
      refine rx (xs_goto (tgt := 23) dm_Re_constant_13 rfl) ?_
      exact rri dm_Re_constant_23 rfl ⟨vi (by rw [st_const, if_pos hc, if_pos hc2]), by rw [st_const, if_pos hc, if_pos hc2]; exact hR⟩
noncomputable def st_app (M : mS) : Int × mS := if kd M 0 = 1 ∧ kd M 1 = 1 then ifc (∃ d, tyO (mn M 1) = 0 :: (tyO (mn M 0) ++ d)) (fi M 2 (1, 12 :: (mn M 1 ++ mn M 0), []) (decide (40 < (12 :: (mn M 1 ++ mn M 0)).length))) (2, M) else (1, M)
set_option maxHeartbeats 4000000 in
set_option maxRecDepth 100000 in
theorem re_app {q : rS} {M : mS} (hg : gM M) (hR : Rl q M) : rM mm_Re_app [] q (fun r q' => r = some (.inl (st_app M).1) ∧ Rl q' (st_app M).2) := by
  refine rm rfl (nl rfl) (fun E => ?_)
  have g6 := hg.2.2.2.2.2.1
  have g7 := hg.2.2.2.2.2.2.1
  have g8 := hg.2.2.2.2.2.2.2.1
  have g9 := hg.2.2.2.2.2.2.2.2.1
  have g10 := hg.2.2.2.2.2.2.2.2.2
  have r1 := hR.1
  have r4 : q 6 1 = (M.2.2.1.length : Int) := hR.2.2.2.1
  have r6 : q 6 2 = (M.2.2.2.1.length : Int) := hR.2.2.2.2.2.1
  have r8 : q 6 3 = (M.2.2.2.2.1.length : Int) := hR.2.2.2.2.2.2.2.1
  have r10 : q 6 4 = (M.2.2.2.2.2 : Int) := hR.2.2.2.2.2.2.2.2.2.1
  have hlk := hR.2.2.2.2.2.2.2.2.2.2
  have i0 := (kd_ir hg 0).1
  have i1 := (kd_ir hg 1).1
  show rX E _ 0 [some (.inr (some E.1.length)), none] [] _ _
  refine rx (xs_aload_n dm_Re_app_0 rfl) ?_
  refine rx (xs_iconst dm_Re_app_1) ?_
  refine rcV (as := [.inl 0]) (rest := []) dm_Re_app_2 lc_Re_top lm_Re_85 li_Re_top (nr rfl rfl) rfl rfl rfl (nl rfl) (re_top' (i := 0) hg hR rfl (by decide)) ?_
  rintro _ q1 ⟨rfl, hq1⟩
  have hq1 := hq1.symm
  subst hq1
  show rX E _ 5 [some (.inr (some E.1.length)), none] [.inl (kd M 0)] _ _
  refine rx (xs_iconst dm_Re_app_5) ?_
  refine xx_icmp_ne (tgt := 18) dm_Re_app_6 rfl i0 (by unfold ir; omega) (fun hc => ?_) (fun hc => ?_)
  · change rX E _ 18 _ _ _ _
    refine rx (xs_iconst dm_Re_app_18) ?_
    exact rri dm_Re_app_19 rfl ⟨vi (by rw [st_app, if_neg (fun h => hc h.1)]), by rw [st_app, if_neg (fun h => hc h.1)]; exact hR⟩
  · change rX E _ 9 _ _ _ _
    refine rx (xs_aload_n dm_Re_app_9 rfl) ?_
    refine rx (xs_iconst dm_Re_app_10) ?_
    refine rcV (as := [.inl 1]) (rest := []) dm_Re_app_11 lc_Re_top lm_Re_85 li_Re_top (nr rfl rfl) rfl rfl rfl (nl rfl) (re_top' (i := 1) hg hR rfl (by decide)) ?_
    rintro _ q1 ⟨rfl, hq1⟩
    have hq1 := hq1.symm
    subst hq1
    show rX E _ 14 [some (.inr (some E.1.length)), none] [.inl (kd M 1)] _ _
    refine rx (xs_iconst dm_Re_app_14) ?_
    refine xx_icmp_eq (tgt := 20) dm_Re_app_15 rfl i1 (by unfold ir; omega) (fun hc2 => ?_) (fun hc2 => ?_)
    · change rX E _ 20 _ _ _ _
      have hk0 := hc
      have hk1 := hc2
      obtain ⟨x0, hx0, ka0, kb0, kc0⟩ := kd_some (M := M) (i := 0) (by rw [hk0]; decide)
      obtain ⟨wa0, wb0, wc0⟩ := Rl_row hR hx0
      have hlt0 := (List.getElem?_eq_some_iff.mp hx0).1
      have gx0 := gM_top hg hx0
      obtain ⟨x1, hx1, ka1, kb1, kc1⟩ := kd_some (M := M) (i := 1) (by rw [hk1]; decide)
      obtain ⟨wa1, wb1, wc1⟩ := Rl_row hR hx1
      have hlt1 := (List.getElem?_eq_some_iff.mp hx1).1
      have gx1 := gM_top hg hx1
      obtain ⟨⟨a2, ht2⟩, hl2, -⟩ := gO_1 gx0 (ka0.symm.trans hk0)
      obtain ⟨⟨a1, ht1⟩, hl1, -⟩ := gO_1 gx1 (ka1.symm.trans hk1)
      have hA1 := isTm_tl ht1 x1.2.1.length (by simp) (Nat.le_refl _)
      have hA2 := isTm_tl ht2 x0.2.1.length (by simp) (Nat.le_refl _)
      have hst : st_app M = ifc (∃ d, a1 = 0 :: (a2 ++ d)) (fi M 2 (1, 12 :: (x1.2.1 ++ x0.2.1), []) (decide (40 < (12 :: (x1.2.1 ++ x0.2.1)).length))) (2, M) := by rw [st_app, if_pos ⟨hk0, hk1⟩, kb0, kb1, tyO_of ht1, tyO_of ht2]
      refine rx (xs_aload_n dm_Re_app_20 rfl) ?_
      refine rcV (as := []) (rest := []) dm_Re_app_21 lc_Re_begin lm_Re_88 li_Re_begin (nr rfl rfl) rfl rfl rfl (nl rfl) (re_begin) ?_
      rintro _ _ ⟨rfl, rfl⟩
      show rX E _ 24 [some (.inr (some E.1.length)), none] [] _ _
      refine rx (xs_aload_n dm_Re_app_24 rfl) ?_
      refine rx (rg (v := .inr (some (rA E 2))) dm_Re_app_25 lf_Re_16 rfl) ?_
      refine rx (xs_bipush dm_Re_app_28 (by decide)) ?_
      refine rx (xs_iconst dm_Re_app_30) ?_
      refine rx (rtn 2 28 (by decide) dm_Re_app_31 (by omega) (by show _ < ((30 : Nat) : Int); omega) rfl) ?_
      change rX E _ _ _ _ (bgk q 1) _
      have b5 := bgk_5 q 1
      have fb := frM_bgk q 1
      have R0 := Rl_fr hg hR fb (lok_bgk 1 hlk)
      refine rx (xs_aload_n dm_Re_app_32 rfl) ?_
      refine rx (xs_aload_n dm_Re_app_33 rfl) ?_
      refine rx (xs_iconst dm_Re_app_34) ?_
      refine rcV (as := [.inl 1]) (rest := [.inr (some E.1.length)]) dm_Re_app_35 lc_Re_rowOf lm_Re_94 li_Re_rowOf (nr rfl rfl) rfl rfl rfl (nl rfl) (re_rowOf' R0 rfl hx1) ?_
      rintro _ q1 ⟨rfl, hq1⟩
      have hq1 := hq1.symm
      subst hq1
      show rX E _ 38 [some (.inr (some E.1.length)), none] [.inl ((160 * (M.1.length - 1 - 1) : Nat) : Int), .inr (some E.1.length)] _ _
      refine rx (xs_aload_n dm_Re_app_38 rfl) ?_
      refine rx (xs_iconst dm_Re_app_39) ?_
      refine rcV (as := [.inl 0]) (rest := [.inl ((160 * (M.1.length - 1 - 1) : Nat) : Int), .inr (some E.1.length)]) dm_Re_app_40 lc_Re_rowOf lm_Re_94 li_Re_rowOf (nr rfl rfl) rfl rfl rfl (nl rfl) (re_rowOf' R0 rfl hx0) ?_
      rintro _ q1 ⟨rfl, hq1⟩
      have hq1 := hq1.symm
      subst hq1
      show rX E _ 43 [some (.inr (some E.1.length)), none] [.inl ((160 * (M.1.length - 1 - 0) : Nat) : Int), .inl ((160 * (M.1.length - 1 - 1) : Nat) : Int), .inr (some E.1.length)] _ _
      have sw1 := frM_sg fb wb1 (by omega)
      have sw0 := frM_sg fb wb0 (by omega)
      by_cases hz : ∃ c d, isTy c ∧ a1 = 0 :: (c ++ d)
      · obtain ⟨c, d, tc, he⟩ := hz
        have td : isTy d := by
          rcases isTy_inv (isTm_ty ht1) with e | ⟨k, _, _, e⟩ | ⟨c', d', u1, u2, e⟩
          · rw [e] at he; simp at he
          · rw [e] at he; simp at he; omega
          · rw [e] at he
            obtain ⟨e1, e2⟩ := isTy_fi u1 tc he
            rw [← e2]; exact u2
        refine rcV (as := [.inl ((160 * (M.1.length - 1 - 1) : Nat) : Int), .inl ((160 * (M.1.length - 1 - 0) : Nat) : Int)]) (rest := []) dm_Re_app_43 lc_Re_fits lm_Re_115 li_Re_fits (nr rfl rfl) rfl rfl rfl (nl rfl) (re_fits1 sw1 sw0 ht1 ht2 rfl rfl (by omega) (by omega) (by omega) hl1 hl2 (by omega) tc td he) ?_
        rintro _ qf ⟨rfl, B, hqf⟩
        show rX E _ 46 [some (.inr (some E.1.length)), none] [.inl (if c = a2 then 1 else 0)] _ _
        have o1 := emL_out (bgk q 1) (a1 ++ a2)
        simp only [List.length_append] at o1
        have ff : frM q qf := by rw [hqf]; exact frM_tr fb (frM_tr (frM_emL (by omega)) (frM_tr (frM_wb _ B) (frM_tr (frM_u6 (by omega)) (frM_u6 (by omega)))))
        have lkb : lok qf := by rw [hqf]; exact lok_u6 (lok_u6 (lok_wb (lok_emL (lok_bgk 1 hlk))))
        have e5 : qf 6 5 = (bgk q 1) 6 5 + ((a1.length + a2.length : Nat) : Int) := by rw [hqf, u3_ne (by omega), u3_ne (by omega)]; exact o1
        have k28 : qf 2 28 = 1 := by rw [hqf, u3_ne (by omega), u3_ne (by omega)]; show (emL (bgk q 1) (a1 ++ a2)) 2 28 = 1; rw [emL_a (by omega) (by omega)]; exact bgk_2 q 1
        have h28 : hyR qf 28 [] := hy0 (by rw [hqf, u3_ne (by omega), u3_ne (by omega)]; show (emL (bgk q 1) (a1 ++ a2)) 3 28 = 0; rw [emL_a (by omega) (by omega)]; exact bgk_3 q 1)
        have g28 : qf 6 6 = 0 := by rw [hqf, u3_ne (by omega), u3_ne (by omega)]; show (emL (bgk q 1) (a1 ++ a2)) 6 6 = 0; rw [emL_s (by omega)]; exact bgk_6 q 1
        by_cases hca : c = a2
        · rw [if_pos hca]
          refine rx (xs_if_ne_t (tgt := 51) dm_Re_app_46 rfl (by unfold ir; omega) (by decide)) ?_
          refine rx (xs_aload_n dm_Re_app_51 rfl) ?_
          refine rx (rg (v := .inl (qf 6 5)) dm_Re_app_52 lf_Re_28 rfl) ?_
          refine rx (xs_istore_n dm_Re_app_55 (by decide)) ?_
          show rX E _ 56 [some (.inr (some E.1.length)), some (.inl (qf 6 5))] [] _ _
          refine rx (xs_aload_n dm_Re_app_56 rfl) ?_
          refine rx (xs_bipush dm_Re_app_57 (by decide)) ?_
          have b5 : qf 6 5 = ((5200 + a1.length + a2.length : Nat) : Int) := by omega
          have hs5 : 5200 ≤ 5200 + a1.length + a2.length := by omega
          have fb2 := fb
          clear fb
          have fb := ff
          have p1 := em_out qf 12
          have Rf1 := Rl_fr hg hR (frM_tr fb (frM_emL (q := qf) (l := [12]) (by omega))) (lok_emL (l := [12]) lkb)
          refine rcV (as := [.inl 12]) (rest := []) dm_Re_app_59 lc_Re_emit lm_Re_32 li_Re_emit (nr rfl rfl) rfl rfl rfl (nl rfl) (re_emit (x := 12) (by omega) (by omega)) ?_
          rintro _ _ ⟨rfl, rfl⟩
          show rX E _ 62 [some (.inr (some E.1.length)), some (.inl (qf 6 5))] [] _ _
          refine rx (xs_aload_n dm_Re_app_62 rfl) ?_
          refine rx (xs_aload_n dm_Re_app_63 rfl) ?_
          refine rx (xs_iconst dm_Re_app_64) ?_
          refine rcV (as := [.inl 1]) (rest := [.inr (some E.1.length)]) dm_Re_app_65 lc_Re_rowOf lm_Re_94 li_Re_rowOf (nr rfl rfl) rfl rfl rfl (nl rfl) (re_rowOf' Rf1 rfl hx1) ?_
          rintro _ q1 ⟨rfl, hq1⟩
          have hq1 := hq1.symm
          subst hq1
          show rX E _ 68 [some (.inr (some E.1.length)), some (.inl (qf 6 5))] [.inl ((160 * (M.1.length - 1 - 1) : Nat) : Int), .inr (some E.1.length)] _ _
          refine rx (xs_aload_n dm_Re_app_68 rfl) ?_
          refine rx (xs_iconst dm_Re_app_69) ?_
          refine rcV (as := [.inl 1]) (rest := [.inl ((160 * (M.1.length - 1 - 1) : Nat) : Int), .inr (some E.1.length)]) dm_Re_app_70 lc_Re_rowEnd lm_Re_97 li_Re_rowEnd (nr rfl rfl) rfl rfl rfl (nl rfl) (re_rowEnd' hg Rf1 rfl hx1) ?_
          rintro _ q1 ⟨rfl, hq1⟩
          have hq1 := hq1.symm
          subst hq1
          show rX E _ 73 [some (.inr (some E.1.length)), some (.inl (qf 6 5))] [.inl (((160 * (M.1.length - 1 - 1) : Nat) : Int) + (x1.2.1.length : Int)), .inl ((160 * (M.1.length - 1 - 1) : Nat) : Int), .inr (some E.1.length)] _ _
          have p2 := emL_out (em qf 12) x1.2.1
          refine rcV (as := [.inl ((160 * (M.1.length - 1 - 1) : Nat) : Int), .inl (((160 * (M.1.length - 1 - 1) : Nat) : Int) + (x1.2.1.length : Int))]) (rest := []) dm_Re_app_73 lc_Re_emitRow lm_Re_43 li_Re_emitRow (nr rfl rfl) rfl rfl rfl (nl rfl) (re_emitRow (frM_sg (frM_tr fb (frM_emL (q := qf) (l := [12]) (by omega))) wb1 (by omega)) rfl rfl (by omega) (by omega)) ?_
          rintro _ _ ⟨rfl, rfl⟩
          show rX E _ 76 [some (.inr (some E.1.length)), some (.inl (qf 6 5))] [] _ _
          have fx : frM q (emL (em qf 12) x1.2.1) := frM_tr fb (frM_tr (frM_emL (q := qf) (l := [12]) (by omega)) (frM_emL (q := em qf 12) (by omega)))
          have Rf2 := Rl_fr hg hR fx (lok_emL (lok_emL (l := [12]) lkb))
          refine rx (xs_aload_n dm_Re_app_76 rfl) ?_
          refine rx (xs_aload_n dm_Re_app_77 rfl) ?_
          refine rx (xs_iconst dm_Re_app_78) ?_
          refine rcV (as := [.inl 0]) (rest := [.inr (some E.1.length)]) dm_Re_app_79 lc_Re_rowOf lm_Re_94 li_Re_rowOf (nr rfl rfl) rfl rfl rfl (nl rfl) (re_rowOf' Rf2 rfl hx0) ?_
          rintro _ q1 ⟨rfl, hq1⟩
          have hq1 := hq1.symm
          subst hq1
          show rX E _ 82 [some (.inr (some E.1.length)), some (.inl (qf 6 5))] [.inl ((160 * (M.1.length - 1 - 0) : Nat) : Int), .inr (some E.1.length)] _ _
          refine rx (xs_aload_n dm_Re_app_82 rfl) ?_
          refine rx (xs_iconst dm_Re_app_83) ?_
          refine rcV (as := [.inl 0]) (rest := [.inl ((160 * (M.1.length - 1 - 0) : Nat) : Int), .inr (some E.1.length)]) dm_Re_app_84 lc_Re_rowEnd lm_Re_97 li_Re_rowEnd (nr rfl rfl) rfl rfl rfl (nl rfl) (re_rowEnd' hg Rf2 rfl hx0) ?_
          rintro _ q1 ⟨rfl, hq1⟩
          have hq1 := hq1.symm
          subst hq1
          show rX E _ 87 [some (.inr (some E.1.length)), some (.inl (qf 6 5))] [.inl (((160 * (M.1.length - 1 - 0) : Nat) : Int) + (x0.2.1.length : Int)), .inl ((160 * (M.1.length - 1 - 0) : Nat) : Int), .inr (some E.1.length)] _ _
          have p3 := emL_out (emL (em qf 12) x1.2.1) x0.2.1
          refine rcV (as := [.inl ((160 * (M.1.length - 1 - 0) : Nat) : Int), .inl (((160 * (M.1.length - 1 - 0) : Nat) : Int) + (x0.2.1.length : Int))]) (rest := []) dm_Re_app_87 lc_Re_emitRow lm_Re_43 li_Re_emitRow (nr rfl rfl) rfl rfl rfl (nl rfl) (re_emitRow (frM_sg fx wb0 (by omega)) rfl rfl (by omega) (by omega)) ?_
          rintro _ _ ⟨rfl, rfl⟩
          show rX E _ 90 [some (.inr (some E.1.length)), some (.inl (qf 6 5))] [] _ _
          have hall : emL (emL (em qf 12) x1.2.1) x0.2.1 = emL qf (12 :: (x1.2.1 ++ x0.2.1)) := by simp [emL]
          rw [hall]
          refine rx (xs_aload_n dm_Re_app_90 rfl) ?_
          refine rx (xs_iconst dm_Re_app_91) ?_
          refine rx (xs_iload_n dm_Re_app_92 rfl) ?_
          refine rcV (as := [.inl 0, .inl (qf 6 5)]) (rest := []) dm_Re_app_93 lc_Re_part lm_Re_66 li_Re_part (nr rfl rfl) rfl rfl rfl (nl rfl) (re_pa (s := 5200 + a1.length + a2.length) (n := (12 :: (x1.2.1 ++ x0.2.1)).length) (by omega) (by rw [emL_out, b5] <;> first | rfl | omega) hs5 (by simp <;> omega)) ?_
          rintro _ _ ⟨rfl, rfl⟩
          show rX E _ 96 [some (.inr (some E.1.length)), some (.inl (qf 6 5))] [] _ _
          refine rx (xs_aload_n dm_Re_app_96 rfl) ?_
          refine rx (xs_iconst dm_Re_app_97) ?_
          have fall : frM q (emL (qf) (12 :: (x1.2.1 ++ x0.2.1))) := frM_tr fb (frM_emL (by omega))
          have key := pa_ok (q := emL (qf) (12 :: (x1.2.1 ++ x0.2.1))) (s := 5200 + a1.length + a2.length) (l := 12 :: (x1.2.1 ++ x0.2.1)) (k := 1) (hs := []) (emL_sg (by omega) b5) (by rw [emL_a (by omega) (by omega)]; exact k28) (emL_h (by omega) h28) (lok_emL lkb)
          rw [emL_s (by omega), g28] at key
          have fpa : frM q (paF (emL (qf) (12 :: (x1.2.1 ++ x0.2.1))) (5200 + a1.length + a2.length) (12 :: (x1.2.1 ++ x0.2.1)).length) := frM_tr fall (frM_part (by decide))
          refine rcV (as := [.inl 2]) (rest := []) dm_Re_app_98 lc_Re_done lm_Re_91 li_Re_done (nr rfl rfl) rfl rfl rfl (nl rfl) (re_done (n := 2) (x := (1, 12 :: (x1.2.1 ++ x0.2.1), [])) (b := decide (40 < (12 :: (x1.2.1 ++ x0.2.1)).length)) hg (Rl_fr hg hR fpa key.2.1) rfl (by omega) (by omega) (by rw [key.2.2]; by_cases hh : 40 < (12 :: (x1.2.1 ++ x0.2.1)).length <;> simp only [hh, bI] <;> simp) (fun hh => key.1 (by simp only [decide_eq_false_iff_not] at hh; omega))) ?_
          rintro _ q9 ⟨rfl, hR9⟩
          rw [show st_app M = fi M 2 (1, 12 :: (x1.2.1 ++ x0.2.1), []) (decide (40 < (12 :: (x1.2.1 ++ x0.2.1)).length)) by rw [hst, ifc_t ⟨d, by rw [he, hca]⟩]]
          show rX E _ 101 [some (.inr (some E.1.length)), some (.inl (qf 6 5))] [.inl (fi M 2 (1, 12 :: (x1.2.1 ++ x0.2.1), []) (decide (40 < (12 :: (x1.2.1 ++ x0.2.1)).length))).1] _ _
          exact rri dm_Re_app_101 rfl ⟨rfl, hR9⟩
        · rw [if_neg hca]
          refine rx (xs_if_ne_f (tgt := 51) dm_Re_app_46 rfl (by unfold ir; omega) (by decide)) ?_
          refine rx (xs_iconst dm_Re_app_49) ?_
          have hst2 : st_app M = (2, M) := by
            rw [hst, ifc_f]
            rintro ⟨d', e'⟩
            exact hca (isTy_fi tc (isTm_ty ht2) (he.symm.trans e')).1
          exact rri dm_Re_app_50 rfl ⟨vi (by rw [hst2]), by rw [hst2]; exact Rl_fr hg hR ff lkb⟩
      · refine rcV (as := [.inl ((160 * (M.1.length - 1 - 1) : Nat) : Int), .inl ((160 * (M.1.length - 1 - 0) : Nat) : Int)]) (rest := []) dm_Re_app_43 lc_Re_fits lm_Re_115 li_Re_fits (nr rfl rfl) rfl rfl rfl (nl rfl) (re_fits0 sw1 sw0 ht1 ht2 rfl rfl (by omega) (by omega) (by omega) hl1 hl2 (by omega) (fun c d tc e => hz ⟨c, d, tc, e⟩)) ?_
        rintro _ qf ⟨rfl, B, hqf⟩
        show rX E _ 46 [some (.inr (some E.1.length)), none] [.inl 0] _ _
        refine rx (xs_if_ne_f (tgt := 51) dm_Re_app_46 rfl (by unfold ir; omega) (by decide)) ?_
        refine rx (xs_iconst dm_Re_app_49) ?_
        have hst2 : st_app M = (2, M) := by
          rw [hst, ifc_f]
          rintro ⟨d', e'⟩
          exact hz ⟨a2, d', isTm_ty ht2, e'⟩
        exact rri dm_Re_app_50 rfl ⟨vi (by rw [hst2]), by rw [hst2, hqf]; exact Rl_fr hg hR (frM_tr fb (frM_tr (frM_emL (by omega)) (frM_wb _ B))) (lok_wb (lok_emL (lok_bgk 1 hlk)))⟩
    · change rX E _ 18 _ _ _ _
      refine rx (xs_iconst dm_Re_app_18) ?_
      exact rri dm_Re_app_19 rfl ⟨vi (by rw [st_app, if_neg (fun h => hc2 h.2)]), by rw [st_app, if_neg (fun h => hc2 h.2)]; exact hR⟩
noncomputable def st_abs (M : mS) : Int × mS := ifc (vb M 1 ∧ kd M 0 = 1) (fi M 2 (1, 13 :: ((mn M 1).drop 2 ++ absC (mn M 1) (mn M 0) ([], 1) 0), []) (decide (40 < (13 :: ((mn M 1).drop 2 ++ absC (mn M 1) (mn M 0) ([], 1) 0)).length))) (1, M)
theorem vb_of {M : mS} {i : Nat} {x : oB} (hg : gM M) (hx : M.1[i]? = some x) (hv : vb M i) : ∃ (n : Int) (c : List Int), x.2.1 = vw n c ∧ isTy c ∧ 0 ≤ n ∧ n ≤ 7 := by
  obtain ⟨k1, l, e⟩ := hv
  obtain ⟨a1, a2, a3⟩ := kd_of hx
  obtain ⟨⟨a, ha⟩, -⟩ := gO_1 (gM_top hg hx) (a1.symm.trans k1)
  rw [a2] at e
  rcases isTm_inv ha with ⟨n, n0, n7, ta, e2⟩ | ⟨c, _, _, _, e2⟩ | ⟨s, _, e2, _⟩ | ⟨d, _, _, e2⟩ | ⟨f, y, s, _, _, _, _, e2⟩ | ⟨s, u, b, _, _, _, e2, _⟩
  · exact ⟨n, a, e2, ta, n0, n7⟩
  · rw [e2] at e; simp at e
  · rw [e2] at e; simp at e
  · rw [e2] at e; simp at e; omega
  · rw [e2] at e; simp at e
  · rw [e2] at e; simp at e
theorem absC_len (v : List Int) : ∀ (l : List Int) (q : List Int × Int) (k : Nat), (absC v l q k).length ≤ l.length := by
  intro l
  induction l with
  | nil => intro q k; simp [absC]
  | cons s l ih =>
    intro q k
    unfold absC
    split
    · simp; exact ih _ _
    · split
      · simp; exact ih _ _
      · simp; exact Nat.le_succ_of_le (ih _ _)
set_option maxHeartbeats 4000000 in
set_option maxRecDepth 100000 in
theorem re_abs {q : rS} {M : mS} (hg : gM M) (hR : Rl q M) : rM mm_Re_abs [] q (fun r q' => r = some (.inl (st_abs M).1) ∧ Rl q' (st_abs M).2) := by
  refine rm rfl (nl rfl) (fun E => ?_)
  have g6 := hg.2.2.2.2.2.1
  have g7 := hg.2.2.2.2.2.2.1
  have g8 := hg.2.2.2.2.2.2.2.1
  have g9 := hg.2.2.2.2.2.2.2.2.1
  have g10 := hg.2.2.2.2.2.2.2.2.2
  have r1 := hR.1
  have r4 : q 6 1 = (M.2.2.1.length : Int) := hR.2.2.2.1
  have r6 : q 6 2 = (M.2.2.2.1.length : Int) := hR.2.2.2.2.2.1
  have r8 : q 6 3 = (M.2.2.2.2.1.length : Int) := hR.2.2.2.2.2.2.2.1
  have r10 : q 6 4 = (M.2.2.2.2.2 : Int) := hR.2.2.2.2.2.2.2.2.2.1
  have hlk := hR.2.2.2.2.2.2.2.2.2.2
  have i0 := (kd_ir hg 0).1
  by_cases hv : vb M 1
  · show rX E _ 0 [some (.inr (some E.1.length))] [] _ _
    refine rx (xs_aload_n dm_Re_abs_0 rfl) ?_
    refine rx (xs_iconst dm_Re_abs_1) ?_
    refine rcV (as := [.inl 1]) (rest := []) dm_Re_abs_2 lc_Re_variable lm_Re_126 li_Re_variable (nr rfl rfl) rfl rfl rfl (nl rfl) (re_variable' (i := 1) (R := 1) hg hR rfl (by decide) (fun _ => rfl) (fun h => absurd hv h)) ?_
    rintro _ q1 ⟨rfl, hq1⟩
    have hq1 := hq1.symm
    subst hq1
    show rX E _ 5 [some (.inr (some E.1.length))] [.inl 1] _ _
    refine rx (xs_if_eq_f (tgt := 17) dm_Re_abs_5 rfl (by unfold ir; omega) (by decide)) ?_
    refine rx (xs_aload_n dm_Re_abs_8 rfl) ?_
    refine rx (xs_iconst dm_Re_abs_9) ?_
    refine rcV (as := [.inl 0]) (rest := []) dm_Re_abs_10 lc_Re_top lm_Re_85 li_Re_top (nr rfl rfl) rfl rfl rfl (nl rfl) (re_top' (i := 0) hg hR rfl (by decide)) ?_
    rintro _ q1 ⟨rfl, hq1⟩
    have hq1 := hq1.symm
    subst hq1
    show rX E _ 13 [some (.inr (some E.1.length))] [.inl (kd M 0)] _ _
    refine rx (xs_iconst dm_Re_abs_13) ?_
    refine xx_icmp_eq (tgt := 19) dm_Re_abs_14 rfl i0 (by unfold ir; omega) (fun hc => ?_) (fun hc => ?_)
    · change rX E _ 19 _ _ _ _
      have hk0 := hc
      have hk1 := hv.1
      obtain ⟨x0, hx0, ka0, kb0, kc0⟩ := kd_some (M := M) (i := 0) (by rw [hk0]; decide)
      obtain ⟨wa0, wb0, wc0⟩ := Rl_row hR hx0
      have hlt0 := (List.getElem?_eq_some_iff.mp hx0).1
      have gx0 := gM_top hg hx0
      obtain ⟨x1, hx1, ka1, kb1, kc1⟩ := kd_some (M := M) (i := 1) (by rw [hk1]; decide)
      obtain ⟨wa1, wb1, wc1⟩ := Rl_row hR hx1
      have hlt1 := (List.getElem?_eq_some_iff.mp hx1).1
      have gx1 := gM_top hg hx1
      obtain ⟨⟨a, ht⟩, hl, -⟩ := gO_1 gx0 (ka0.symm.trans hk0)
      obtain ⟨n, c, ev, tc, n0, n7⟩ := vb_of hg hx1 hv
      have hvl : x1.2.1.length = c.length + 2 := by rw [ev]; simp [vw]
      have hcl := absC_len (vw n c) x0.2.1 ([], 1) 0
      have hst : st_abs M = fi M 2 (1, 13 :: (c ++ absC (vw n c) x0.2.1 ([], 1) 0), []) (decide (40 < (13 :: (c ++ absC (vw n c) x0.2.1 ([], 1) 0)).length)) := by rw [st_abs, ifc_t ⟨hv, hk0⟩, kb0, kb1, ev]; rfl
      rw [ev] at wb1
      refine rx (xs_aload_n dm_Re_abs_19 rfl) ?_
      refine rcV (as := []) (rest := []) dm_Re_abs_20 lc_Re_begin lm_Re_88 li_Re_begin (nr rfl rfl) rfl rfl rfl (nl rfl) (re_begin) ?_
      rintro _ _ ⟨rfl, rfl⟩
      show rX E _ 23 [some (.inr (some E.1.length))] [] _ _
      refine rx (xs_aload_n dm_Re_abs_23 rfl) ?_
      refine rx (rg (v := .inr (some (rA E 2))) dm_Re_abs_24 lf_Re_16 rfl) ?_
      refine rx (xs_bipush dm_Re_abs_27 (by decide)) ?_
      refine rx (xs_iconst dm_Re_abs_29) ?_
      refine rx (rtn 2 28 (by decide) dm_Re_abs_30 (by omega) (by show _ < ((30 : Nat) : Int); omega) rfl) ?_
      change rX E _ _ _ _ (bgk q 1) _
      have b5 := bgk_5 q 1
      have fb := frM_bgk q 1
      have hs5 : 5200 ≤ 5200 := Nat.le_refl _
      have k28 := bgk_2 q 1
      have h28 := hy0 (bgk_3 q 1)
      have g28 := bgk_6 q 1
      have lkb := lok_bgk 1 hlk
      have R0 := Rl_fr hg hR fb lkb
      refine rx (xs_aload_n dm_Re_abs_31 rfl) ?_
      refine rx (xs_aload_n dm_Re_abs_32 rfl) ?_
      refine rx (xs_iconst dm_Re_abs_33) ?_
      refine rcV (as := [.inl 1]) (rest := [.inr (some E.1.length)]) dm_Re_abs_34 lc_Re_rowOf lm_Re_94 li_Re_rowOf (nr rfl rfl) rfl rfl rfl (nl rfl) (re_rowOf' R0 rfl hx1) ?_
      rintro _ q1 ⟨rfl, hq1⟩
      have hq1 := hq1.symm
      subst hq1
      show rX E _ 37 [some (.inr (some E.1.length))] [.inl ((160 * (M.1.length - 1 - 1) : Nat) : Int), .inr (some E.1.length)] _ _
      refine rx (xs_aload_n dm_Re_abs_37 rfl) ?_
      refine rx (xs_iconst dm_Re_abs_38) ?_
      refine rcV (as := [.inl 1]) (rest := [.inl ((160 * (M.1.length - 1 - 1) : Nat) : Int), .inr (some E.1.length)]) dm_Re_abs_39 lc_Re_rowEnd lm_Re_97 li_Re_rowEnd (nr rfl rfl) rfl rfl rfl (nl rfl) (re_rowEnd' hg R0 rfl hx1) ?_
      rintro _ q1 ⟨rfl, hq1⟩
      have hq1 := hq1.symm
      subst hq1
      show rX E _ 42 [some (.inr (some E.1.length))] [.inl (((160 * (M.1.length - 1 - 1) : Nat) : Int) + (x1.2.1.length : Int)), .inl ((160 * (M.1.length - 1 - 1) : Nat) : Int), .inr (some E.1.length)] _ _
      refine rx (xs_aload_n dm_Re_abs_42 rfl) ?_
      refine rx (xs_iconst dm_Re_abs_43) ?_
      refine rcV (as := [.inl 0]) (rest := [.inl (((160 * (M.1.length - 1 - 1) : Nat) : Int) + (x1.2.1.length : Int)), .inl ((160 * (M.1.length - 1 - 1) : Nat) : Int), .inr (some E.1.length)]) dm_Re_abs_44 lc_Re_rowOf lm_Re_94 li_Re_rowOf (nr rfl rfl) rfl rfl rfl (nl rfl) (re_rowOf' R0 rfl hx0) ?_
      rintro _ q1 ⟨rfl, hq1⟩
      have hq1 := hq1.symm
      subst hq1
      show rX E _ 47 [some (.inr (some E.1.length))] [.inl ((160 * (M.1.length - 1 - 0) : Nat) : Int), .inl (((160 * (M.1.length - 1 - 1) : Nat) : Int) + (x1.2.1.length : Int)), .inl ((160 * (M.1.length - 1 - 1) : Nat) : Int), .inr (some E.1.length)] _ _
      refine rx (xs_aload_n dm_Re_abs_47 rfl) ?_
      refine rx (xs_iconst dm_Re_abs_48) ?_
      refine rcV (as := [.inl 0]) (rest := [.inl ((160 * (M.1.length - 1 - 0) : Nat) : Int), .inl (((160 * (M.1.length - 1 - 1) : Nat) : Int) + (x1.2.1.length : Int)), .inl ((160 * (M.1.length - 1 - 1) : Nat) : Int), .inr (some E.1.length)]) dm_Re_abs_49 lc_Re_rowEnd lm_Re_97 li_Re_rowEnd (nr rfl rfl) rfl rfl rfl (nl rfl) (re_rowEnd' hg R0 rfl hx0) ?_
      rintro _ q1 ⟨rfl, hq1⟩
      have hq1 := hq1.symm
      subst hq1
      show rX E _ 52 [some (.inr (some E.1.length))] [.inl (((160 * (M.1.length - 1 - 0) : Nat) : Int) + (x0.2.1.length : Int)), .inl ((160 * (M.1.length - 1 - 0) : Nat) : Int), .inl (((160 * (M.1.length - 1 - 1) : Nat) : Int) + (x1.2.1.length : Int)), .inl ((160 * (M.1.length - 1 - 1) : Nat) : Int), .inr (some E.1.length)] _ _
      refine rcV (as := [.inl ((160 * (M.1.length - 1 - 1) : Nat) : Int), .inl (((160 * (M.1.length - 1 - 1) : Nat) : Int) + (x1.2.1.length : Int)), .inl ((160 * (M.1.length - 1 - 0) : Nat) : Int), .inl (((160 * (M.1.length - 1 - 0) : Nat) : Int) + (x0.2.1.length : Int))]) (rest := []) dm_Re_abs_52 lc_Re_emitAbs lm_Re_130 li_Re_emitAbs (nr rfl rfl) rfl rfl rfl (nl rfl) (re_emitAbs (frM_sg fb wb0 (by omega)) (frM_sg fb wb1 (by simp [vw]; omega)) ht tc ⟨n0, n7⟩ rfl rfl rfl (by omega) (by omega) (by omega) (by omega)) ?_
      rintro _ _ ⟨rfl, rfl⟩
      show rX E _ 55 [some (.inr (some E.1.length))] [] _ _
      refine rx (xs_aload_n dm_Re_abs_55 rfl) ?_
      refine rx (xs_iconst dm_Re_abs_56) ?_
      refine rx (xs_sipush dm_Re_abs_57 (by decide)) ?_
      refine rcV (as := [.inl 0, .inl 5200]) (rest := []) dm_Re_abs_60 lc_Re_part lm_Re_66 li_Re_part (nr rfl rfl) rfl rfl rfl (nl rfl) (re_pa (s := 5200) (n := (13 :: (c ++ absC (vw n c) x0.2.1 ([], 1) 0)).length) (by omega) (by rw [emL_out, b5] <;> first | rfl | omega) hs5 (by simp only [List.length_cons, List.length_append]; omega)) ?_
      rintro _ _ ⟨rfl, rfl⟩
      show rX E _ 63 [some (.inr (some E.1.length))] [] _ _
      refine rx (xs_aload_n dm_Re_abs_63 rfl) ?_
      refine rx (xs_iconst dm_Re_abs_64) ?_
      have fall : frM q (emL (bgk q 1) (13 :: (c ++ absC (vw n c) x0.2.1 ([], 1) 0))) := frM_tr fb (frM_emL (by omega))
      have key := pa_ok (q := emL (bgk q 1) (13 :: (c ++ absC (vw n c) x0.2.1 ([], 1) 0))) (s := 5200) (l := 13 :: (c ++ absC (vw n c) x0.2.1 ([], 1) 0)) (k := 1) (hs := []) (emL_sg (by omega) b5) (by rw [emL_a (by omega) (by omega)]; exact k28) (emL_h (by omega) h28) (lok_emL lkb)
      rw [emL_s (by omega), g28] at key
      have fpa : frM q (paF (emL (bgk q 1) (13 :: (c ++ absC (vw n c) x0.2.1 ([], 1) 0))) 5200 (13 :: (c ++ absC (vw n c) x0.2.1 ([], 1) 0)).length) := frM_tr fall (frM_part (by decide))
      refine rcV (as := [.inl 2]) (rest := []) dm_Re_abs_65 lc_Re_done lm_Re_91 li_Re_done (nr rfl rfl) rfl rfl rfl (nl rfl) (re_done (n := 2) (x := (1, 13 :: (c ++ absC (vw n c) x0.2.1 ([], 1) 0), [])) (b := decide (40 < (13 :: (c ++ absC (vw n c) x0.2.1 ([], 1) 0)).length)) hg (Rl_fr hg hR fpa key.2.1) rfl (by omega) (by omega) (by rw [key.2.2]; by_cases hh : 40 < (13 :: (c ++ absC (vw n c) x0.2.1 ([], 1) 0)).length <;> simp only [hh, bI] <;> simp) (fun hh => key.1 (by simp only [decide_eq_false_iff_not] at hh; omega))) ?_
      rintro _ q9 ⟨rfl, hR9⟩
      rw [hst]
      show rX E _ 68 [some (.inr (some E.1.length))] [.inl (fi M 2 (1, 13 :: (c ++ absC (vw n c) x0.2.1 ([], 1) 0), []) (decide (40 < (13 :: (c ++ absC (vw n c) x0.2.1 ([], 1) 0)).length))).1] _ _
      exact rri dm_Re_abs_68 rfl ⟨rfl, hR9⟩
    · change rX E _ 17 _ _ _ _
      refine rx (xs_iconst dm_Re_abs_17) ?_
      exact rri dm_Re_abs_18 rfl ⟨vi (by rw [st_abs, ifc_f (fun h => hc h.2)]), by rw [st_abs, ifc_f (fun h => hc h.2)]; exact hR⟩
  · show rX E _ 0 [some (.inr (some E.1.length))] [] _ _
    refine rx (xs_aload_n dm_Re_abs_0 rfl) ?_
    refine rx (xs_iconst dm_Re_abs_1) ?_
    refine rcV (as := [.inl 1]) (rest := []) dm_Re_abs_2 lc_Re_variable lm_Re_126 li_Re_variable (nr rfl rfl) rfl rfl rfl (nl rfl) (re_variable' (i := 1) (R := 0) hg hR rfl (by decide) (fun h => absurd h hv) (fun _ => rfl)) ?_
    rintro _ q1 ⟨rfl, hq1⟩
    have hq1 := hq1.symm
    subst hq1
    show rX E _ 5 [some (.inr (some E.1.length))] [.inl 0] _ _
    refine rx (xs_if_eq_t (tgt := 17) dm_Re_abs_5 rfl (by unfold ir; omega) rfl) ?_
    refine rx (xs_iconst dm_Re_abs_17) ?_
    exact rri dm_Re_abs_18 rfl ⟨vi (by rw [st_abs, ifc_f (fun h => hv h.1)]), by rw [st_abs, ifc_f (fun h => hv h.1)]; exact hR⟩
