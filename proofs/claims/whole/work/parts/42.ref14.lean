theorem re_rowOf' {q : rS} {M : mS} {i : Nat} {ii : Int} {x : oB} (hR : Rl q M) (hi : ii = i) (hx : M.1[i]? = some x) : rM mm_Re_rowOf [.inl ii] q (fun r q' => r = some (.inl ((160 * (M.1.length - 1 - i) : Nat) : Int)) ∧ q' = q) := by
  have hl := (List.getElem?_eq_some_iff.mp hx).1
  have r1 := hR.1
  intro E
  obtain ⟨r, hf, hm, q', e, h1, h2⟩ := re_rowOf (q := q) (i := ii) E
  exact ⟨r, hf, hm, q', e, by rw [h1]; exact vi (by omega), h2⟩
theorem re_rowEnd' {q : rS} {M : mS} {i : Nat} {ii : Int} {x : oB} (hg : gM M) (hR : Rl q M) (hi : ii = i) (hx : M.1[i]? = some x) : rM mm_Re_rowEnd [.inl ii] q (fun r q' => r = some (.inl (((160 * (M.1.length - 1 - i) : Nat) : Int) + (x.2.1.length : Int))) ∧ q' = q) := by
  have hl := (List.getElem?_eq_some_iff.mp hx).1
  have g6 := hg.2.2.2.2.2.1
  have r1 := hR.1
  obtain ⟨w1, -, -⟩ := Rl_row hR hx
  intro E
  obtain ⟨r, hf, hm, q', e, h1, h2⟩ := re_rowEnd (q := q) (i := ii) (by omega) (by omega) E
  refine ⟨r, hf, hm, q', e, ?_, h2⟩
  rw [h1]
  refine vi ?_
  rw [show (4 * (q 6 0 - 1 - ii)).toNat = 4 * (M.1.length - 1 - i) by omega, w1]
  omega
theorem re_top' {q : rS} {M : mS} {i : Nat} {ii : Int} (hg : gM M) (hR : Rl q M) (hi : ii = i) (hi2 : i ≤ 12) : rM mm_Re_top [.inl ii] q (fun r q' => r = some (.inl (kd M i)) ∧ q' = q) := by
  have g6 := hg.2.2.2.2.2.1
  have r1 := hR.1
  subst hi
  intro E
  obtain ⟨r, hf, hm, q', e, h1, h2⟩ := re_top (q := q) (i := (i : Int)) (by omega) (by omega) (by omega) (by omega) E
  exact ⟨r, hf, hm, q', e, by rw [h1, Rl_tp hg hR], h2⟩
/-- is the object so far below the top a variable -/
def vb (M : mS) (i : Nat) : Prop := kd M i = 1 ∧ ∃ l, mn M i = 10 :: l
theorem re_variable' {q : rS} {M : mS} {i : Nat} {ii : Int} {R : Int} (hg : gM M) (hR : Rl q M) (hi : ii = i) (hi2 : i ≤ 12) (h1 : vb M i → R = 1) (h0 : ¬ vb M i → R = 0) : rM mm_Re_variable [.inl ii] q (fun r q' => r = some (.inl R) ∧ q' = q) := by
  have g6 := hg.2.2.2.2.2.1
  have r1 := hR.1
  have ht := Rl_tp hg hR i
  subst hi
  have key : tp q (i : Int) = 1 → ∃ (y : Int) (l : List Int), mn M i = y :: l ∧ ir y ∧ q 0 (160 * (q 6 0 - 1 - (i : Int))).toNat = y := by
    intro h
    rw [ht] at h
    obtain ⟨x, hx, k1, k2, k3⟩ := kd_some (M := M) (i := i) (by rw [h]; decide)
    have hl := (List.getElem?_eq_some_iff.mp hx).1
    obtain ⟨⟨a, ha⟩, -⟩ := gO_1 (gM_top hg hx) (k1.symm.trans h)
    obtain ⟨w1, w2, w3⟩ := Rl_row hR hx
    obtain ⟨y, l, e, -⟩ := isTm_hd ha
    refine ⟨y, l, by rw [k2]; exact e, (gO_ir (gM_top hg hx)).1 y (by rw [e]; exact List.mem_cons_self), ?_⟩
    rw [show (160 * (q 6 0 - 1 - (i : Int))).toNat = 160 * (M.1.length - 1 - i) by omega]
    rw [e] at w2
    exact sg_hd w2
  intro E
  obtain ⟨r, hf, hm, q', e, hr, hq⟩ := re_variable (q := q) (i := (i : Int)) (by omega) (by omega) (by omega) (by omega) (by rw [ht]; exact (kd_ir hg i).1) (fun h => by obtain ⟨y, l, _, e2, e3⟩ := key h; rw [e3]; exact e2) E
  refine ⟨r, hf, hm, q', e, ?_, hq⟩
  rw [hr]
  refine vi ?_
  by_cases hv : vb M i
  · rw [h1 hv]
    obtain ⟨k1, l, e1⟩ := hv
    obtain ⟨y, l2, e2, -, e3⟩ := key (by rw [ht]; exact k1)
    rw [e1] at e2
    unfold vr
    rw [if_pos ⟨by rw [ht]; exact k1, by rw [e3]; exact (List.cons.inj e2).1.symm⟩]
  · rw [h0 hv]
    unfold vr
    rw [if_neg]
    rintro ⟨k1, k2⟩
    obtain ⟨y, l2, e2, -, e3⟩ := key k1
    exact hv ⟨by rw [← ht]; exact k1, l2, by rw [e2, ← e3, k2]⟩
set_option maxHeartbeats 4000000 in
set_option maxRecDepth 100000 in
theorem re_type {q : rS} {M : mS} {k : Int} (hg : gM M) (hR : Rl q M) (hk : ir k) : rM mm_Re_type [.inl k] q (fun r q' => r = some (.inl (st_type M k).1) ∧ Rl q' (st_type M k).2) := by
  refine rm rfl (nl rfl) (fun E => ?_)
  have g6 := hg.2.2.2.2.2.1
  have r1 := hR.1
  have hlk := hR.2.2.2.2.2.2.2.2.2.2
  show rX E _ 0 [some (.inr (some E.1.length)), some (.inl k)] [] _ _
  refine rx (xs_iload_n dm_Re_type_0 rfl) ?_
  refine rx (xs_iconst dm_Re_type_1) ?_
  refine xx_icmp_lt (tgt := 10) dm_Re_type_2 rfl hk (by unfold ir; omega) (fun hc => ?_) (fun hc => ?_)
  · change rX E _ 10 _ _ _ _
    refine rx (xs_iconst dm_Re_type_10) ?_
    exact rri dm_Re_type_11 rfl ⟨vi (by rw [st_type, if_pos (Or.inl hc)]), by rw [st_type, if_pos (Or.inl hc)]; exact hR⟩
  · change rX E _ 5 _ _ _ _
    refine rx (xs_iload_n dm_Re_type_5 rfl) ?_
    refine rx (xs_iconst dm_Re_type_6) ?_
    refine xx_icmp_le (tgt := 12) dm_Re_type_7 rfl hk (by unfold ir; omega) (fun hc2 => ?_) (fun hc2 => ?_)
    · change rX E _ 12 _ _ _ _
      have hr : ¬ (k < -1 ∨ 4 < k) := by omega
      refine rx (xs_iload_n dm_Re_type_12 rfl) ?_
      refine rx (xs_iconst dm_Re_type_13) ?_
      refine xx_icmp_ne (tgt := 35) dm_Re_type_14 rfl hk (by unfold ir; omega) (fun hc3 => ?_) (fun hc3 => ?_)
      · change rX E _ 35 _ _ _ _
        refine rx (xs_aload_n dm_Re_type_35 rfl) ?_
        refine rcV (as := []) (rest := []) dm_Re_type_36 lc_Re_begin lm_Re_88 li_Re_begin (nr rfl rfl) rfl rfl rfl (nl rfl) (re_begin) ?_
        rintro _ _ ⟨rfl, rfl⟩
        show rX E _ 39 [some (.inr (some E.1.length)), some (.inl k)] [] _ _
        refine rx (xs_aload_n dm_Re_type_39 rfl) ?_
        refine rx (rg (v := .inr (some (rA E 2))) dm_Re_type_40 lf_Re_16 rfl) ?_
        refine rx (xs_bipush dm_Re_type_43 (by decide)) ?_
        refine rx (xs_iconst dm_Re_type_45) ?_
        refine rx (rtn 2 28 (by decide) dm_Re_type_46 (by omega) (by show _ < ((30 : Nat) : Int); omega) rfl) ?_
        change rX E _ _ _ _ (bgk q 0) _
        have b5 := bgk_5 q 0
        have fb := frM_bgk q 0
        have s0 : (bgk q 0) 6 0 = (M.1.length : Int) := by rw [fb 6 0 (by unfold tch; omega) (by omega) (by omega) (by omega)]; exact r1
        refine rx (xs_iload_n dm_Re_type_47 rfl) ?_
        refine rx (xs_iconst dm_Re_type_48) ?_
        refine rx (xs_icmp_ge_f (tgt := 84) dm_Re_type_49 rfl (by unfold ir; omega) (by unfold ir; omega) (by omega)) ?_
        refine rx (xs_aload_n dm_Re_type_52 rfl) ?_
        refine rx (rg (v := .inl ((bgk q 0) 6 0)) dm_Re_type_53 lf_Re_79 rfl) ?_
        refine rx (xs_bipush dm_Re_type_56 (by decide)) ?_
        refine xx_icmp_ne (tgt := 63) dm_Re_type_58 rfl (by unfold ir; omega) (by unfold ir; omega) (fun hc4 => ?_) (fun hc4 => ?_)
        · change rX E _ 63 _ _ _ _
          refine rx (xs_aload_n dm_Re_type_63 rfl) ?_
          refine rx (xs_iload_n dm_Re_type_64 rfl) ?_
          refine rx (xs_iconst dm_Re_type_65) ?_
          refine rx (xs_iadd dm_Re_type_66) ?_
          refine rcV (as := [.inl (k + 2)]) (rest := []) dm_Re_type_67 lc_Re_emit lm_Re_32 li_Re_emit (nr rfl rfl) rfl rfl rfl (nl rfl) (re_emit (x := k + 2) (by omega) (by omega)) ?_
          rintro _ _ ⟨rfl, rfl⟩
          show rX E _ 70 [some (.inr (some E.1.length)), some (.inl k)] [] _ _
          change rX E _ _ _ _ (emL (bgk q 0) [k + 2]) _
          refine rx (xs_aload_n dm_Re_type_70 rfl) ?_
          refine rx (xs_iconst dm_Re_type_71) ?_
          refine rx (xs_sipush dm_Re_type_72 (by decide)) ?_
          refine rcV (as := [.inl 0, .inl 5200]) (rest := []) dm_Re_type_75 lc_Re_part lm_Re_66 li_Re_part (nr rfl rfl) rfl rfl rfl (nl rfl) (re_pa (s := 5200) (n := ([k + 2]).length) rfl (by rw [emL_out, b5]; rfl) (by decide) (by simp <;> omega)) ?_
          rintro _ _ ⟨rfl, rfl⟩
          show rX E _ 78 [some (.inr (some E.1.length)), some (.inl k)] [] _ _
          refine rx (xs_aload_n dm_Re_type_78 rfl) ?_
          refine rx (xs_iconst dm_Re_type_79) ?_
          have fall : frM q (emL (bgk q 0) ([k + 2])) := frM_tr fb (frM_emL (by omega))
          have key := pa_ok (q := emL (bgk q 0) ([k + 2])) (s := 5200) (l := [k + 2]) (k := 0) (hs := []) (emL_sg (by omega) (by rw [b5]; rfl)) (by rw [emL_a (by omega) (by omega)]; exact bgk_2 q 0) (emL_h (by omega) (hy0 (bgk_3 q 0))) (lok_emL (lok_bgk 0 hlk))
          rw [emL_s (by omega), bgk_6] at key
          have fpa : frM q (paF (emL (bgk q 0) ([k + 2])) 5200 ([k + 2]).length) := frM_tr fall (frM_part (by decide))
          refine rcV (as := [.inl 0]) (rest := []) dm_Re_type_80 lc_Re_done lm_Re_91 li_Re_done (nr rfl rfl) rfl rfl rfl (nl rfl) (re_done (n := 0) (x := (0, [k + 2], [])) (b := false) hg (Rl_fr hg hR fpa key.2.1) rfl (by omega) (by omega) (by rw [key.2.2, if_neg (by simp <;> omega)]; rfl) (fun hh => key.1 (by simp <;> omega))) ?_
          rintro _ q9 ⟨rfl, hR9⟩
          rw [show st_type M k = fi M 0 (0, [k + 2], []) false by rw [st_type, if_neg hr, if_neg hc3, if_neg (by omega)]]
          show rX E _ 83 [some (.inr (some E.1.length)), some (.inl k)] [.inl (fi M 0 (0, [k + 2], []) false).1] _ _
          exact rri dm_Re_type_83 rfl ⟨rfl, hR9⟩
        · change rX E _ 61 _ _ _ _
          refine rx (xs_iconst dm_Re_type_61) ?_
          exact rri dm_Re_type_62 rfl ⟨vi (by rw [st_type, if_neg hr, if_neg hc3, if_pos (by omega)]), by rw [st_type, if_neg hr, if_neg hc3, if_pos (by omega)]; exact Rl_fr hg hR fb (lok_bgk 0 hlk)⟩
      · change rX E _ 17 _ _ _ _
        subst hc3
        have i0 := (kd_ir hg 0).1
        have i1 := (kd_ir hg 1).1
        refine rx (xs_aload_n dm_Re_type_17 rfl) ?_
        refine rx (xs_iconst dm_Re_type_18) ?_
        refine rcV (as := [.inl 0]) (rest := []) dm_Re_type_19 lc_Re_top lm_Re_85 li_Re_top (nr rfl rfl) rfl rfl rfl (nl rfl) (re_top' (i := 0) hg hR rfl (by decide)) ?_
        rintro _ q1 ⟨rfl, hq1⟩
        have hq1 := hq1.symm
        subst hq1
        show rX E _ 22 [some (.inr (some E.1.length)), some (.inl 4)] [.inl (kd M 0)] _ _
        refine xx_if_ne (tgt := 33) dm_Re_type_22 rfl i0 (fun hc4 => ?_) (fun hc4 => ?_)
        · change rX E _ 33 _ _ _ _
          refine rx (xs_iconst dm_Re_type_33) ?_
          exact rri dm_Re_type_34 rfl ⟨vi (by rw [st_type, if_neg hr, if_pos rfl, if_neg (fun h => hc4 h.1)]), by rw [st_type, if_neg hr, if_pos rfl, if_neg (fun h => hc4 h.1)]; exact hR⟩
        · change rX E _ 25 _ _ _ _
          refine rx (xs_aload_n dm_Re_type_25 rfl) ?_
          refine rx (xs_iconst dm_Re_type_26) ?_
          refine rcV (as := [.inl 1]) (rest := []) dm_Re_type_27 lc_Re_top lm_Re_85 li_Re_top (nr rfl rfl) rfl rfl rfl (nl rfl) (re_top' (i := 1) hg hR rfl (by decide)) ?_
          rintro _ q1 ⟨rfl, hq1⟩
          have hq1 := hq1.symm
          subst hq1
          show rX E _ 30 [some (.inr (some E.1.length)), some (.inl 4)] [.inl (kd M 1)] _ _
          refine xx_if_eq (tgt := 35) dm_Re_type_30 rfl i1 (fun hc5 => ?_) (fun hc5 => ?_)
          · change rX E _ 35 _ _ _ _
            have hk0 := hc4
            have hk1 := hc5
            obtain ⟨x0, hx0, ka0, kb0, kc0⟩ := kd_some (M := M) (i := 0) (by rw [hk0]; decide)
            obtain ⟨wa0, wb0, wc0⟩ := Rl_row hR hx0
            have hlt0 := (List.getElem?_eq_some_iff.mp hx0).1
            have gx0 := gM_top hg hx0
            obtain ⟨x1, hx1, ka1, kb1, kc1⟩ := kd_some (M := M) (i := 1) (by rw [hk1]; decide)
            obtain ⟨wa1, wb1, wc1⟩ := Rl_row hR hx1
            have hlt1 := (List.getElem?_eq_some_iff.mp hx1).1
            have gx1 := gM_top hg hx1
            have z0 := gO_0 gx0 (ka0.symm.trans hk0)
            have z1 := gO_0 gx1 (ka1.symm.trans hk1)
            refine rx (xs_aload_n dm_Re_type_35 rfl) ?_
            refine rcV (as := []) (rest := []) dm_Re_type_36 lc_Re_begin lm_Re_88 li_Re_begin (nr rfl rfl) rfl rfl rfl (nl rfl) (re_begin) ?_
            rintro _ _ ⟨rfl, rfl⟩
            show rX E _ 39 [some (.inr (some E.1.length)), some (.inl 4)] [] _ _
            refine rx (xs_aload_n dm_Re_type_39 rfl) ?_
            refine rx (rg (v := .inr (some (rA E 2))) dm_Re_type_40 lf_Re_16 rfl) ?_
            refine rx (xs_bipush dm_Re_type_43 (by decide)) ?_
            refine rx (xs_iconst dm_Re_type_45) ?_
            refine rx (rtn 2 28 (by decide) dm_Re_type_46 (by omega) (by show _ < ((30 : Nat) : Int); omega) rfl) ?_
            change rX E _ _ _ _ (bgk q 0) _
            have b5 := bgk_5 q 0
            have fb := frM_bgk q 0
            refine rx (xs_iload_n dm_Re_type_47 rfl) ?_
            refine rx (xs_iconst dm_Re_type_48) ?_
            refine rx (xs_icmp_ge_t (tgt := 84) dm_Re_type_49 rfl (by unfold ir; omega) (by unfold ir; omega) (by decide)) ?_
            refine rx (xs_aload_n dm_Re_type_84 rfl) ?_
            refine rx (xs_iconst dm_Re_type_85) ?_
            refine rcV (as := [.inl 0]) (rest := []) dm_Re_type_86 lc_Re_emit lm_Re_32 li_Re_emit (nr rfl rfl) rfl rfl rfl (nl rfl) (re_emit (x := 0) (by omega) (by omega)) ?_
            rintro _ _ ⟨rfl, rfl⟩
            show rX E _ 89 [some (.inr (some E.1.length)), some (.inl 4)] [] _ _
            have o1 := em_out (bgk q 0) 0
            have f1 : frM q (em (bgk q 0) 0) := frM_tr fb (frM_emL (l := [0]) (by omega))
            have R1 := Rl_fr hg hR f1 (lok_emL (l := [0]) (lok_bgk 0 hlk))
            refine rx (xs_aload_n dm_Re_type_89 rfl) ?_
            refine rx (xs_aload_n dm_Re_type_90 rfl) ?_
            refine rx (xs_iconst dm_Re_type_91) ?_
            refine rcV (as := [.inl 1]) (rest := [.inr (some E.1.length)]) dm_Re_type_92 lc_Re_rowOf lm_Re_94 li_Re_rowOf (nr rfl rfl) rfl rfl rfl (nl rfl) (re_rowOf' R1 rfl hx1) ?_
            rintro _ q1 ⟨rfl, hq1⟩
            have hq1 := hq1.symm
            subst hq1
            show rX E _ 95 [some (.inr (some E.1.length)), some (.inl 4)] [.inl ((160 * (M.1.length - 1 - 1) : Nat) : Int), .inr (some E.1.length)] _ _
            refine rx (xs_aload_n dm_Re_type_95 rfl) ?_
            refine rx (xs_iconst dm_Re_type_96) ?_
            refine rcV (as := [.inl 1]) (rest := [.inl ((160 * (M.1.length - 1 - 1) : Nat) : Int), .inr (some E.1.length)]) dm_Re_type_97 lc_Re_rowEnd lm_Re_97 li_Re_rowEnd (nr rfl rfl) rfl rfl rfl (nl rfl) (re_rowEnd' hg R1 rfl hx1) ?_
            rintro _ q1 ⟨rfl, hq1⟩
            have hq1 := hq1.symm
            subst hq1
            show rX E _ 100 [some (.inr (some E.1.length)), some (.inl 4)] [.inl (((160 * (M.1.length - 1 - 1) : Nat) : Int) + (x1.2.1.length : Int)), .inl ((160 * (M.1.length - 1 - 1) : Nat) : Int), .inr (some E.1.length)] _ _
            have o2 := emL_out (em (bgk q 0) 0) x1.2.1
            refine rcV (as := [.inl ((160 * (M.1.length - 1 - 1) : Nat) : Int), .inl (((160 * (M.1.length - 1 - 1) : Nat) : Int) + (x1.2.1.length : Int))]) (rest := []) dm_Re_type_100 lc_Re_emitRow lm_Re_43 li_Re_emitRow (nr rfl rfl) rfl rfl rfl (nl rfl) (re_emitRow (frM_sg f1 wb1 (by omega)) rfl rfl (by omega) (by omega)) ?_
            rintro _ _ ⟨rfl, rfl⟩
            show rX E _ 103 [some (.inr (some E.1.length)), some (.inl 4)] [] _ _
            have f2 : frM q (emL (em (bgk q 0) 0) x1.2.1) := frM_tr f1 (frM_emL (by omega))
            have R2 := Rl_fr hg hR f2 (lok_emL (lok_emL (l := [0]) (lok_bgk 0 hlk)))
            refine rx (xs_aload_n dm_Re_type_103 rfl) ?_
            refine rx (xs_aload_n dm_Re_type_104 rfl) ?_
            refine rx (xs_iconst dm_Re_type_105) ?_
            refine rcV (as := [.inl 0]) (rest := [.inr (some E.1.length)]) dm_Re_type_106 lc_Re_rowOf lm_Re_94 li_Re_rowOf (nr rfl rfl) rfl rfl rfl (nl rfl) (re_rowOf' R2 rfl hx0) ?_
            rintro _ q1 ⟨rfl, hq1⟩
            have hq1 := hq1.symm
            subst hq1
            show rX E _ 109 [some (.inr (some E.1.length)), some (.inl 4)] [.inl ((160 * (M.1.length - 1 - 0) : Nat) : Int), .inr (some E.1.length)] _ _
            refine rx (xs_aload_n dm_Re_type_109 rfl) ?_
            refine rx (xs_iconst dm_Re_type_110) ?_
            refine rcV (as := [.inl 0]) (rest := [.inl ((160 * (M.1.length - 1 - 0) : Nat) : Int), .inr (some E.1.length)]) dm_Re_type_111 lc_Re_rowEnd lm_Re_97 li_Re_rowEnd (nr rfl rfl) rfl rfl rfl (nl rfl) (re_rowEnd' hg R2 rfl hx0) ?_
            rintro _ q1 ⟨rfl, hq1⟩
            have hq1 := hq1.symm
            subst hq1
            show rX E _ 114 [some (.inr (some E.1.length)), some (.inl 4)] [.inl (((160 * (M.1.length - 1 - 0) : Nat) : Int) + (x0.2.1.length : Int)), .inl ((160 * (M.1.length - 1 - 0) : Nat) : Int), .inr (some E.1.length)] _ _
            have o3 := emL_out (emL (em (bgk q 0) 0) x1.2.1) x0.2.1
            refine rcV (as := [.inl ((160 * (M.1.length - 1 - 0) : Nat) : Int), .inl (((160 * (M.1.length - 1 - 0) : Nat) : Int) + (x0.2.1.length : Int))]) (rest := []) dm_Re_type_114 lc_Re_emitRow lm_Re_43 li_Re_emitRow (nr rfl rfl) rfl rfl rfl (nl rfl) (re_emitRow (frM_sg f2 wb0 (by omega)) rfl rfl (by omega) (by omega)) ?_
            rintro _ _ ⟨rfl, rfl⟩
            show rX E _ 117 [some (.inr (some E.1.length)), some (.inl 4)] [] _ _
            have hall : emL (emL (em (bgk q 0) 0) x1.2.1) x0.2.1 = emL (bgk q 0) (0 :: (x1.2.1 ++ x0.2.1)) := by simp [emL]
            rw [hall] at o3 ⊢
            have hst : st_type M 4 = if 15 < (0 :: (x1.2.1 ++ x0.2.1)).length then (4, M) else fi M 2 (0, 0 :: (x1.2.1 ++ x0.2.1), []) false := by rw [st_type, if_neg hr, if_pos rfl, if_pos ⟨hk0, hk1⟩, kb0, kb1]
            refine rx (xs_aload_n dm_Re_type_117 rfl) ?_
            refine rx (rg (v := .inl ((emL (bgk q 0) (0 :: (x1.2.1 ++ x0.2.1))) 6 5)) dm_Re_type_118 lf_Re_28 rfl) ?_
            refine rx (xs_sipush dm_Re_type_121 (by decide)) ?_
            refine rx (xs_isub dm_Re_type_124) ?_
            refine rx (xs_bipush dm_Re_type_125 (by decide)) ?_
            refine xx_icmp_le (tgt := 132) dm_Re_type_127 rfl (by unfold ir; omega) (by unfold ir; omega) (fun hc6 => ?_) (fun hc6 => ?_)
            · change rX E _ 132 _ _ _ _
              refine rx (xs_aload_n dm_Re_type_132 rfl) ?_
              refine rx (xs_iconst dm_Re_type_133) ?_
              refine rx (xs_sipush dm_Re_type_134 (by decide)) ?_
              refine rcV (as := [.inl 0, .inl 5200]) (rest := []) dm_Re_type_137 lc_Re_part lm_Re_66 li_Re_part (nr rfl rfl) rfl rfl rfl (nl rfl) (re_pa (s := 5200) (n := (0 :: (x1.2.1 ++ x0.2.1)).length) rfl (by rw [emL_out, b5]; rfl) (by decide) (by simp <;> omega)) ?_
              rintro _ _ ⟨rfl, rfl⟩
              show rX E _ 140 [some (.inr (some E.1.length)), some (.inl 4)] [] _ _
              refine rx (xs_aload_n dm_Re_type_140 rfl) ?_
              refine rx (xs_iconst dm_Re_type_141) ?_
              have fall : frM q (emL (bgk q 0) (0 :: (x1.2.1 ++ x0.2.1))) := frM_tr fb (frM_emL (by omega))
              have key := pa_ok (q := emL (bgk q 0) (0 :: (x1.2.1 ++ x0.2.1))) (s := 5200) (l := 0 :: (x1.2.1 ++ x0.2.1)) (k := 0) (hs := []) (emL_sg (by omega) (by rw [b5]; rfl)) (by rw [emL_a (by omega) (by omega)]; exact bgk_2 q 0) (emL_h (by omega) (hy0 (bgk_3 q 0))) (lok_emL (lok_bgk 0 hlk))
              rw [emL_s (by omega), bgk_6] at key
              have fpa : frM q (paF (emL (bgk q 0) (0 :: (x1.2.1 ++ x0.2.1))) 5200 (0 :: (x1.2.1 ++ x0.2.1)).length) := frM_tr fall (frM_part (by decide))
              refine rcV (as := [.inl 2]) (rest := []) dm_Re_type_142 lc_Re_done lm_Re_91 li_Re_done (nr rfl rfl) rfl rfl rfl (nl rfl) (re_done (n := 2) (x := (0, 0 :: (x1.2.1 ++ x0.2.1), [])) (b := false) hg (Rl_fr hg hR fpa key.2.1) rfl (by omega) (by omega) (by rw [key.2.2, if_neg (by simp <;> omega)]; rfl) (fun hh => key.1 (by simp <;> omega))) ?_
              rintro _ q9 ⟨rfl, hR9⟩
              rw [show st_type M 4 = fi M 2 (0, 0 :: (x1.2.1 ++ x0.2.1), []) false by rw [hst, if_neg (by simp; omega)]]
              show rX E _ 145 [some (.inr (some E.1.length)), some (.inl 4)] [.inl (fi M 2 (0, 0 :: (x1.2.1 ++ x0.2.1), []) false).1] _ _
              exact rri dm_Re_type_145 rfl ⟨rfl, hR9⟩
            · change rX E _ 130 _ _ _ _
              refine rx (xs_iconst dm_Re_type_130) ?_
              exact rri dm_Re_type_131 rfl ⟨vi (by rw [hst, if_pos (by simp; omega)]), by rw [hst, if_pos (by simp; omega)]; exact Rl_fr hg hR (frM_tr fb (frM_emL (by omega))) (lok_emL (lok_bgk 0 hlk))⟩
          · change rX E _ 33 _ _ _ _
            refine rx (xs_iconst dm_Re_type_33) ?_
            exact rri dm_Re_type_34 rfl ⟨vi (by rw [st_type, if_neg hr, if_pos rfl, if_neg (fun h => hc5 h.2)]), by rw [st_type, if_neg hr, if_pos rfl, if_neg (fun h => hc5 h.2)]; exact hR⟩
    · change rX E _ 10 _ _ _ _
      refine rx (xs_iconst dm_Re_type_10) ?_
      exact rri dm_Re_type_11 rfl ⟨vi (by rw [st_type, if_pos (Or.inr (by omega))]), by rw [st_type, if_pos (Or.inr (by omega))]; exact hR⟩
