def bg (q : rS) : rS := u3 (u3 (u3 (u3 q 6 5 5200) 6 6 0) 3 28 0) 2 28 2
set_option maxHeartbeats 4000000 in
set_option maxRecDepth 100000 in
theorem re_begin {q : rS} : rM mm_Re_begin [] q (fun r q' => r = none ∧ q' = bg q) := by
  refine rm rfl (nl rfl) (fun E => ?_)
  show rX E _ 0 [some (.inr (some E.1.length))] [] _ _
  refine rx (xs_aload_n dm_Re_begin_0 rfl) ?_
  refine rx (xs_sipush dm_Re_begin_1 (by decide)) ?_
  refine rx (rp 5 (by decide) dm_Re_begin_4 lp_Re_28 (x_ft_i _)) ?_
  refine rx (xs_aload_n dm_Re_begin_7 rfl) ?_
  refine rx (xs_iconst dm_Re_begin_8) ?_
  refine rx (rp 6 (by decide) dm_Re_begin_9 lp_Re_50 x_ft_z0) ?_
  refine rx (xs_aload_n dm_Re_begin_12 rfl) ?_
  refine rx (rg (v := .inr (some (rA E 3))) dm_Re_begin_13 lf_Re_19 rfl) ?_
  refine rx (xs_bipush dm_Re_begin_16 (by decide)) ?_
  refine rx (xs_iconst dm_Re_begin_18) ?_
  refine rx (rtn 3 28 (by decide) dm_Re_begin_19 (by omega) (by show _ < ((30 : Nat) : Int); omega) rfl) ?_
  refine rx (xs_aload_n dm_Re_begin_20 rfl) ?_
  refine rx (rg (v := .inr (some (rA E 2))) dm_Re_begin_21 lf_Re_16 rfl) ?_
  refine rx (xs_bipush dm_Re_begin_24 (by decide)) ?_
  refine rx (xs_iconst dm_Re_begin_26) ?_
  refine rx (rtn 2 28 (by decide) dm_Re_begin_27 (by omega) (by show _ < ((30 : Nat) : Int); omega) rfl) ?_
  exact rrv dm_Re_begin_28 rfl ⟨rfl, rfl⟩
def tp (q : rS) (i : Int) : Int := if i < q 6 0 then q 2 (q 6 0 - 1 - i).toNat else -1
set_option maxHeartbeats 4000000 in
set_option maxRecDepth 100000 in
theorem re_top {q : rS} {i : Int} (h0 : 0 ≤ q 6 0) (h1 : q 6 0 ≤ 12) (i0 : 0 ≤ i) (i1 : i ≤ 12) : rM mm_Re_top [.inl i] q (fun r q' => r = some (.inl (tp q i)) ∧ q' = q) := by
  refine rm rfl (nl rfl) (fun E => ?_)
  show rX E _ 0 [some (.inr (some E.1.length)), some (.inl i)] [] _ _
  refine rx (xs_iload_n dm_Re_top_0 rfl) ?_
  refine rx (xs_aload_n dm_Re_top_1 rfl) ?_
  refine rx (rg (v := .inl (q 6 0)) dm_Re_top_2 lf_Re_79 rfl) ?_
  refine xx_icmp_ge (tgt := 24) dm_Re_top_5 rfl (by unfold ir; omega) (by unfold ir; omega) (fun hc => ?_) (fun hc => ?_)
  · change rX E _ 24 _ _ _ _
    refine rx (xs_iconst dm_Re_top_24) ?_
    exact rri dm_Re_top_25 rfl ⟨vi (by unfold tp; rw [if_neg (by omega)]), rfl⟩
  · change rX E _ 8 _ _ _ _
    refine rx (xs_aload_n dm_Re_top_8 rfl) ?_
    refine rx (rg (v := .inr (some (rA E 2))) dm_Re_top_9 lf_Re_16 rfl) ?_
    refine rx (xs_aload_n dm_Re_top_12 rfl) ?_
    refine rx (rg (v := .inl (q 6 0)) dm_Re_top_13 lf_Re_79 rfl) ?_
    refine rx (xs_iconst dm_Re_top_16) ?_
    refine rx (xs_isub dm_Re_top_17) ?_
    refine rx (xs_iload_n dm_Re_top_18 rfl) ?_
    refine rx (xs_isub dm_Re_top_19) ?_
    refine rx (rl 2 (by decide) dm_Re_top_20 (by omega) (by show _ < ((30 : Nat) : Int); omega)) ?_
    refine rx (xs_goto (tgt := 25) dm_Re_top_21 rfl) ?_
    exact rri dm_Re_top_25 rfl ⟨vi (by unfold tp; rw [if_pos (by omega)]), rfl⟩
set_option maxHeartbeats 4000000 in
set_option maxRecDepth 100000 in
theorem re_rowOf {q : rS} {i : Int} : rM mm_Re_rowOf [.inl i] q (fun r q' => r = some (.inl (160 * (q 6 0 - 1 - i) + 40 * 0)) ∧ q' = q) := by
  refine rm rfl (nl rfl) (fun E => ?_)
  show rX E _ 0 [some (.inr (some E.1.length)), some (.inl i)] [] _ _
  refine rx (xs_aload_n dm_Re_rowOf_0 rfl) ?_
  refine rx (rg (v := .inl (q 6 0)) dm_Re_rowOf_1 lf_Re_79 rfl) ?_
  refine rx (xs_iconst dm_Re_rowOf_4) ?_
  refine rx (xs_isub dm_Re_rowOf_5) ?_
  refine rx (xs_iload_n dm_Re_rowOf_6 rfl) ?_
  refine rx (xs_isub dm_Re_rowOf_7) ?_
  refine rx (xs_iconst dm_Re_rowOf_8) ?_
  refine rcS (as := [.inl (((q 6 0) - 1) - i), .inl 0]) (rest := []) dm_Re_rowOf_9 lc_Re_base lm_Re_54 li_Re_base (nr rfl rfl) rfl rfl (nl rfl) (re_base _ _) ?_
  show rX E _ 12 [some (.inr (some E.1.length)), some (.inl i)] [.inl (160 * (q 6 0 - 1 - i) + 40 * 0)] _ _
  exact rri dm_Re_rowOf_12 rfl ⟨rfl, rfl⟩
set_option maxHeartbeats 4000000 in
set_option maxRecDepth 100000 in
theorem re_rowEnd {q : rS} {i : Int} (h0 : 0 ≤ q 6 0 - 1 - i) (h1 : q 6 0 - 1 - i < 30) : rM mm_Re_rowEnd [.inl i] q (fun r q' => r = some (.inl (160 * (q 6 0 - 1 - i) + 40 * 0 + q 1 (4 * (q 6 0 - 1 - i)).toNat)) ∧ q' = q) := by
  refine rm rfl (nl rfl) (fun E => ?_)
  show rX E _ 0 [some (.inr (some E.1.length)), some (.inl i)] [] _ _
  refine rx (xs_aload_n dm_Re_rowEnd_0 rfl) ?_
  refine rx (rg (v := .inl (q 6 0)) dm_Re_rowEnd_1 lf_Re_79 rfl) ?_
  refine rx (xs_iconst dm_Re_rowEnd_4) ?_
  refine rx (xs_isub dm_Re_rowEnd_5) ?_
  refine rx (xs_iload_n dm_Re_rowEnd_6 rfl) ?_
  refine rx (xs_isub dm_Re_rowEnd_7) ?_
  refine rx (xs_iconst dm_Re_rowEnd_8) ?_
  refine rcS (as := [.inl (((q 6 0) - 1) - i), .inl 0]) (rest := []) dm_Re_rowEnd_9 lc_Re_base lm_Re_54 li_Re_base (nr rfl rfl) rfl rfl (nl rfl) (re_base _ _) ?_
  show rX E _ 12 [some (.inr (some E.1.length)), some (.inl i)] [.inl (160 * (q 6 0 - 1 - i) + 40 * 0)] _ _
  refine rx (xs_aload_n dm_Re_rowEnd_12 rfl) ?_
  refine rx (rg (v := .inr (some (rA E 1))) dm_Re_rowEnd_13 lf_Re_13 rfl) ?_
  refine rx (xs_iconst dm_Re_rowEnd_16) ?_
  refine rx (xs_aload_n dm_Re_rowEnd_17 rfl) ?_
  refine rx (rg (v := .inl (q 6 0)) dm_Re_rowEnd_18 lf_Re_79 rfl) ?_
  refine rx (xs_iconst dm_Re_rowEnd_21) ?_
  refine rx (xs_isub dm_Re_rowEnd_22) ?_
  refine rx (xs_iload_n dm_Re_rowEnd_23 rfl) ?_
  refine rx (xs_isub dm_Re_rowEnd_24) ?_
  refine rx (xs_imul dm_Re_rowEnd_25) ?_
  refine rx (rl 1 (by decide) dm_Re_rowEnd_26 (by omega) (by show _ < ((120 : Nat) : Int); omega)) ?_
  refine rx (xs_iadd dm_Re_rowEnd_27) ?_
  exact rri dm_Re_rowEnd_28 rfl ⟨rfl, rfl⟩
def vr (q : rS) (i : Int) : Int := if tp q i = 1 ∧ q 0 (160 * (q 6 0 - 1 - i)).toNat = 10 then 1 else 0
set_option maxHeartbeats 4000000 in
set_option maxRecDepth 100000 in
theorem re_variable {q : rS} {i : Int} (h0 : 0 ≤ q 6 0) (h1 : q 6 0 ≤ 12) (i0 : 0 ≤ i) (i1 : i ≤ 12) (hi : ir (tp q i)) (hm : tp q i = 1 → ir (q 0 (160 * (q 6 0 - 1 - i)).toNat)) : rM mm_Re_variable [.inl i] q (fun r q' => r = some (.inl (vr q i)) ∧ q' = q) := by
  refine rm rfl (nl rfl) (fun E => ?_)
  show rX E _ 0 [some (.inr (some E.1.length)), some (.inl i)] [] _ _
  refine rx (xs_aload_n dm_Re_variable_0 rfl) ?_
  refine rx (xs_iload_n dm_Re_variable_1 rfl) ?_
  refine rcV (as := [.inl i]) (rest := []) dm_Re_variable_2 lc_Re_top lm_Re_85 li_Re_top (nr rfl rfl) rfl rfl rfl (nl rfl) (re_top h0 h1 i0 i1) ?_
  rintro _ q1 ⟨rfl, hq1⟩
  have hq1 := hq1.symm
  subst hq1
  show rX E _ 5 [some (.inr (some E.1.length)), some (.inl i)] [.inl (tp q i)] _ _
  refine rx (xs_iconst dm_Re_variable_5) ?_
  refine xx_icmp_ne (tgt := 35) dm_Re_variable_6 rfl hi (by unfold ir; omega) (fun hc => ?_) (fun hc => ?_)
  · change rX E _ 35 _ _ _ _
    refine rx (xs_iconst dm_Re_variable_35) ?_
    exact rrz dm_Re_variable_36 rfl (Or.inl rfl) ⟨vi (by unfold vr; rw [if_neg (fun e => hc e.1)]), rfl⟩
  · change rX E _ 9 _ _ _ _
    have hlt : i < q 6 0 := by
      by_cases h : i < q 6 0
      · exact h
      · unfold tp at hc; rw [if_neg h] at hc; omega
    refine rx (xs_aload_n dm_Re_variable_9 rfl) ?_
    refine rx (rg (v := .inr (some (rA E 0))) dm_Re_variable_10 lf_Re_7 rfl) ?_
    refine rx (xs_aload_n dm_Re_variable_13 rfl) ?_
    refine rx (rg (v := .inl (q 6 0)) dm_Re_variable_14 lf_Re_79 rfl) ?_
    refine rx (xs_iconst dm_Re_variable_17) ?_
    refine rx (xs_isub dm_Re_variable_18) ?_
    refine rx (xs_iload_n dm_Re_variable_19 rfl) ?_
    refine rx (xs_isub dm_Re_variable_20) ?_
    refine rx (xs_iconst dm_Re_variable_21) ?_
    refine rcS (as := [.inl (((q 6 0) - 1) - i), .inl 0]) (rest := [.inr (some (rA E 0))]) dm_Re_variable_22 lc_Re_base lm_Re_54 li_Re_base (nr rfl rfl) rfl rfl (nl rfl) (re_base _ _) ?_
    show rX E _ 25 [some (.inr (some E.1.length)), some (.inl i)] [.inl (160 * (q 6 0 - 1 - i) + 40 * 0), .inr (some (rA E 0))] _ _
    refine rx (rlv 0 (q 0 (160 * (q 6 0 - 1 - i)).toNat) (by decide) dm_Re_variable_25 (by omega) (by show _ < ((10000 : Nat) : Int); omega) (by rw [show 160 * (q 6 0 - 1 - i) + 40 * 0 = 160 * (q 6 0 - 1 - i) by omega])) ?_
    refine rx (xs_bipush dm_Re_variable_26 (by decide)) ?_
    refine xx_icmp_ne (tgt := 35) dm_Re_variable_28 rfl (hm hc) (by unfold ir; omega) (fun hc2 => ?_) (fun hc2 => ?_)
    · change rX E _ 35 _ _ _ _
      refine rx (xs_iconst dm_Re_variable_35) ?_
      exact rrz dm_Re_variable_36 rfl (Or.inl rfl) ⟨vi (by unfold vr; rw [if_neg (fun e => hc2 e.2)]), rfl⟩
    · change rX E _ 31 _ _ _ _
      refine rx (xs_iconst dm_Re_variable_31) ?_
      refine rx (xs_goto (tgt := 36) dm_Re_variable_32 rfl) ?_
      exact rrz dm_Re_variable_36 rfl (Or.inr rfl) ⟨vi (by unfold vr; rw [if_pos ⟨hc, hc2⟩]), rfl⟩
set_option maxHeartbeats 4000000 in
set_option maxRecDepth 100000 in
theorem re_isEq1 {q : rS} {f : Int} {p : Nat} {r : List Int} (hs : sg q p (12 :: 12 :: 11 :: 0 :: r)) (hf : f = p) (h1 : p < 9000) : rM mm_Re_isEquation [.inl f] q (fun r q' => r = some (.inl 1) ∧ q' = q) := by
  refine rm rfl (nl rfl) (fun E => ?_)
  show rX E _ 0 [some (.inr (some E.1.length)), some (.inl f)] [] _ _
  refine rx (xs_aload_n dm_Re_isEquation_0 rfl) ?_
  refine rx (rg (v := .inr (some (rA E 0))) dm_Re_isEquation_1 lf_Re_7 rfl) ?_
  refine rx (xs_iload_n dm_Re_isEquation_4 rfl) ?_
  refine rx (rlv 0 12 (by decide) dm_Re_isEquation_5 (by omega) (by show _ < ((10000 : Nat) : Int); omega) (by rw [show (f).toNat = p + 0 by omega]; exact hs 0 _ rfl)) ?_
  refine rx (xs_bipush dm_Re_isEquation_6 (by decide)) ?_
  refine rx (xs_icmp_ne_f (tgt := 52) dm_Re_isEquation_8 rfl (by unfold ir; omega) (by unfold ir; omega) (by decide)) ?_
  refine rx (xs_aload_n dm_Re_isEquation_11 rfl) ?_
  refine rx (rg (v := .inr (some (rA E 0))) dm_Re_isEquation_12 lf_Re_7 rfl) ?_
  refine rx (xs_iload_n dm_Re_isEquation_15 rfl) ?_
  refine rx (xs_iconst dm_Re_isEquation_16) ?_
  refine rx (xs_iadd dm_Re_isEquation_17) ?_
  refine rx (rlv 0 12 (by decide) dm_Re_isEquation_18 (by omega) (by show _ < ((10000 : Nat) : Int); omega) (by rw [show (f + 1).toNat = p + 1 by omega]; exact hs 1 _ rfl)) ?_
  refine rx (xs_bipush dm_Re_isEquation_19 (by decide)) ?_
  refine rx (xs_icmp_ne_f (tgt := 52) dm_Re_isEquation_21 rfl (by unfold ir; omega) (by unfold ir; omega) (by decide)) ?_
  refine rx (xs_aload_n dm_Re_isEquation_24 rfl) ?_
  refine rx (rg (v := .inr (some (rA E 0))) dm_Re_isEquation_25 lf_Re_7 rfl) ?_
  refine rx (xs_iload_n dm_Re_isEquation_28 rfl) ?_
  refine rx (xs_iconst dm_Re_isEquation_29) ?_
  refine rx (xs_iadd dm_Re_isEquation_30) ?_
  refine rx (rlv 0 11 (by decide) dm_Re_isEquation_31 (by omega) (by show _ < ((10000 : Nat) : Int); omega) (by rw [show (f + 2).toNat = p + 2 by omega]; exact hs 2 _ rfl)) ?_
  refine rx (xs_bipush dm_Re_isEquation_32 (by decide)) ?_
  refine rx (xs_icmp_ne_f (tgt := 52) dm_Re_isEquation_34 rfl (by unfold ir; omega) (by unfold ir; omega) (by decide)) ?_
  refine rx (xs_aload_n dm_Re_isEquation_37 rfl) ?_
  refine rx (rg (v := .inr (some (rA E 0))) dm_Re_isEquation_38 lf_Re_7 rfl) ?_
  refine rx (xs_iload_n dm_Re_isEquation_41 rfl) ?_
  refine rx (xs_iconst dm_Re_isEquation_42) ?_
  refine rx (xs_iadd dm_Re_isEquation_43) ?_
  refine rx (rlv 0 0 (by decide) dm_Re_isEquation_44 (by omega) (by show _ < ((10000 : Nat) : Int); omega) (by rw [show (f + 3).toNat = p + 3 by omega]; exact hs 3 _ rfl)) ?_
  refine rx (xs_if_ne_f (tgt := 52) dm_Re_isEquation_45 rfl (by unfold ir; omega) (by decide)) ?_
  refine rx (xs_iconst dm_Re_isEquation_48) ?_
  refine rx (xs_goto (tgt := 53) dm_Re_isEquation_49 rfl) ?_
  exact rrz dm_Re_isEquation_53 rfl (Or.inr rfl) ⟨rfl, rfl⟩
/-- an equation's row -/
def isE (t : List Int) : Prop := ∃ r, t = 12 :: 12 :: 11 :: 0 :: r
set_option maxHeartbeats 4000000 in
set_option maxRecDepth 100000 in
theorem re_isEq0 {q : rS} {f : Int} {p : Nat} {G : List (List Int)} {t a : List Int} (hs : sg q p t) (ht : isTm G t a) (hn : ¬ isE t) (hf : f = p) (h1 : p < 9000) (hG : G.length + t.length ≤ 1000) : rM mm_Re_isEquation [.inl f] q (fun r q' => r = some (.inl 0) ∧ q' = q) := by
  refine rm rfl (nl rfl) (fun E => ?_)
  have hm : ∀ i, i < t.length → ir (q 0 (p + i)) := fun i hi => by
    have e := hs i _ (List.getElem?_eq_getElem hi)
    rw [e]
    exact isTm_ir ht (by omega) _ (List.getElem_mem hi)
  have hl0 := isTm_len ht
  have hm0 : ir (q 0 f.toNat) := by rw [show f.toNat = p + 0 by omega]; exact hm 0 hl0
  show rX E _ 0 [some (.inr (some E.1.length)), some (.inl f)] [] _ _
  refine rx (xs_aload_n dm_Re_isEquation_0 rfl) ?_
  refine rx (rg (v := .inr (some (rA E 0))) dm_Re_isEquation_1 lf_Re_7 rfl) ?_
  refine rx (xs_iload_n dm_Re_isEquation_4 rfl) ?_
  refine rx (rl 0 (by decide) dm_Re_isEquation_5 (by omega) (by show _ < ((10000 : Nat) : Int); omega)) ?_
  refine rx (xs_bipush dm_Re_isEquation_6 (by decide)) ?_
  refine xx_icmp_ne (tgt := 52) dm_Re_isEquation_8 rfl hm0 (by unfold ir; omega) (fun hc => ?_) (fun hc => ?_)
  · change rX E _ 52 _ _ _ _
    refine rx (xs_iconst dm_Re_isEquation_52) ?_
    exact rrz dm_Re_isEquation_53 rfl (Or.inl rfl) ⟨rfl, rfl⟩
  · change rX E _ 11 _ _ _ _
    have hc1 : q 0 p = 12 := by rw [← hc]; congr 1; omega
    obtain ⟨s0, r0, e0, -⟩ := isTm_hd ht
    have e1 := sg_hd (e0 ▸ hs)
    rcases isTm_inv ht with ⟨m, m0, m7, ha, e⟩ | ⟨m, m0, m7, ha, e⟩ | ⟨s, ha, e, -⟩ | ⟨d, hd, ha, e⟩ | ⟨f1, x1, s1, hs1, ha1, hf1, hx1, e⟩ | ⟨s, u, b, hs1, hb1, hu, e, -⟩
    · rw [e] at hs; have := sg_hd hs; omega
    · rw [e] at hs; have := sg_hd hs; omega
    · rw [e] at hs; have := sg_hd hs; omega
    · rw [e] at hs; have := sg_hd hs; omega
    rotate_left
    · rw [e] at hs; have := sg_hd hs; omega
    have hl1 := isTm_len hf1
    have hl2 := isTm_len hx1
    have hlt : t.length = f1.length + x1.length + 1 := by rw [e]; simp
    have hm1 : ir (q 0 (f + 1).toNat) := by rw [show (f + 1).toNat = p + 1 by omega]; exact hm 1 (by omega)
    rw [e] at hs
    have hs1' := (sg_app.mp (sg_tl hs)).1
    refine rx (xs_aload_n dm_Re_isEquation_11 rfl) ?_
    refine rx (rg (v := .inr (some (rA E 0))) dm_Re_isEquation_12 lf_Re_7 rfl) ?_
    refine rx (xs_iload_n dm_Re_isEquation_15 rfl) ?_
    refine rx (xs_iconst dm_Re_isEquation_16) ?_
    refine rx (xs_iadd dm_Re_isEquation_17) ?_
    refine rx (rl 0 (by decide) dm_Re_isEquation_18 (by omega) (by show _ < ((10000 : Nat) : Int); omega)) ?_
    refine rx (xs_bipush dm_Re_isEquation_19 (by decide)) ?_
    refine xx_icmp_ne (tgt := 52) dm_Re_isEquation_21 rfl hm1 (by unfold ir; omega) (fun hc2 => ?_) (fun hc2 => ?_)
    · change rX E _ 52 _ _ _ _
      refine rx (xs_iconst dm_Re_isEquation_52) ?_
      exact rrz dm_Re_isEquation_53 rfl (Or.inl rfl) ⟨rfl, rfl⟩
    · change rX E _ 24 _ _ _ _
      have hc2' : q 0 (p + 1) = 12 := by rw [← hc2]; congr 1; omega
      rcases isTm_inv hf1 with ⟨m, m0, m7, ha, e2⟩ | ⟨m, m0, m7, ha, e2⟩ | ⟨s, ha, e2, -⟩ | ⟨d, hd, ha, e2⟩ | ⟨f2, x2, s2, hs2, ha2, hf2, hx2, e2⟩ | ⟨s, u, b, hs2, hb2, hu, e2, -⟩
      · rw [e2] at hs1'; have := sg_hd hs1'; omega
      · rw [e2] at hs1'; have := sg_hd hs1'; omega
      · rw [e2] at hs1'; have := sg_hd hs1'; omega
      · rw [e2] at hs1'; have := sg_hd hs1'; omega
      rotate_left
      · rw [e2] at hs1'; have := sg_hd hs1'; omega
      have hl3 := isTm_len hf2
      have hlf : f1.length = f2.length + x2.length + 1 := by rw [e2]; simp
      have hm2 : ir (q 0 (f + 2).toNat) := by rw [show (f + 2).toNat = p + 2 by omega]; exact hm 2 (by omega)
      rw [e2] at hs1'
      have hs2' := (sg_app.mp (sg_tl hs1')).1
      refine rx (xs_aload_n dm_Re_isEquation_24 rfl) ?_
      refine rx (rg (v := .inr (some (rA E 0))) dm_Re_isEquation_25 lf_Re_7 rfl) ?_
      refine rx (xs_iload_n dm_Re_isEquation_28 rfl) ?_
      refine rx (xs_iconst dm_Re_isEquation_29) ?_
      refine rx (xs_iadd dm_Re_isEquation_30) ?_
      refine rx (rl 0 (by decide) dm_Re_isEquation_31 (by omega) (by show _ < ((10000 : Nat) : Int); omega)) ?_
      refine rx (xs_bipush dm_Re_isEquation_32 (by decide)) ?_
      refine xx_icmp_ne (tgt := 52) dm_Re_isEquation_34 rfl hm2 (by unfold ir; omega) (fun hc3 => ?_) (fun hc3 => ?_)
      · change rX E _ 52 _ _ _ _
        refine rx (xs_iconst dm_Re_isEquation_52) ?_
        exact rrz dm_Re_isEquation_53 rfl (Or.inl rfl) ⟨rfl, rfl⟩
      · change rX E _ 37 _ _ _ _
        have hc3' : q 0 (p + 1 + 1) = 11 := by rw [← hc3]; congr 1; omega
        have key : ∃ (c : Int) (y : List Int), f2 = 11 :: c :: y ∧ ¬ c = 0 := by
          rcases isTm_inv hf2 with ⟨m, m0, m7, ha, e3⟩ | ⟨m, m0, m7, ha, e3⟩ | ⟨s, ha, e3, -⟩ | ⟨d, hd, ha, e3⟩ | ⟨f3, x3, s3, hs3, ha3, hf3, hx3, e3⟩ | ⟨s, u, b, hs3, hb3, hu, e3, -⟩
          · rw [e3] at hs2'; have := sg_hd hs2'; omega
          · exact ⟨m, _, e3, by omega⟩
          · exact (hn ⟨_, by rw [e, e2, e3]; rfl⟩).elim
          · rw [e3] at hs2'; have := sg_hd hs2'; omega
          · rw [e3] at hs2'; have := sg_hd hs2'; omega
          · rw [e3] at hs2'; have := sg_hd hs2'; omega
        obtain ⟨c, y, e3, hc0⟩ := key
        rw [e3] at hs2'
        have hc4 := sg_hd (sg_tl hs2')
        refine rx (xs_aload_n dm_Re_isEquation_37 rfl) ?_
        refine rx (rg (v := .inr (some (rA E 0))) dm_Re_isEquation_38 lf_Re_7 rfl) ?_
        refine rx (xs_iload_n dm_Re_isEquation_41 rfl) ?_
        refine rx (xs_iconst dm_Re_isEquation_42) ?_
        refine rx (xs_iadd dm_Re_isEquation_43) ?_
        refine rx (rlv 0 c (by decide) dm_Re_isEquation_44 (by omega) (by show _ < ((10000 : Nat) : Int); omega) (by rw [← hc4]; congr 1; omega)) ?_
        refine rx (xs_if_ne_t (tgt := 52) dm_Re_isEquation_45 rfl (by rw [← hc4]; exact hm (1 + 1 + 1) (by omega)) hc0) ?_
        refine rx (xs_iconst dm_Re_isEquation_52) ?_
        exact rrz dm_Re_isEquation_53 rfl (Or.inl rfl) ⟨rfl, rfl⟩
set_option maxHeartbeats 4000000 in
set_option maxRecDepth 100000 in
theorem re_left {q : rS} {f : Int} {p : Nat} {a : List Int} (hs : sg q (p + 4) a) (ha : isTy a) (hf : f = p) (h1 : p + 4 + a.length ≤ 10000) : rM mm_Re_left [.inl f] q (fun r q' => r = some (.inl ((p : Int) + 4 + (a.length : Int))) ∧ q' = q) := by
  refine rm rfl (nl rfl) (fun E => ?_)
  show rX E _ 0 [some (.inr (some E.1.length)), some (.inl f)] [] _ _
  refine rx (xs_aload_n dm_Re_left_0 rfl) ?_
  refine rx (xs_iload_n dm_Re_left_1 rfl) ?_
  refine rx (xs_iconst dm_Re_left_2) ?_
  refine rx (xs_iadd dm_Re_left_3) ?_
  refine rcV (as := [.inl (f + 4)]) (rest := []) dm_Re_left_4 lc_Re_skipType lm_Re_36 li_Re_skipType (nr rfl rfl) rfl rfl rfl (nl rfl) (re_skipType hs ha (by omega) (by omega)) ?_
  rintro _ q1 ⟨rfl, hq1⟩
  have hq1 := hq1.symm
  subst hq1
  show rX E _ 7 [some (.inr (some E.1.length)), some (.inl f)] [.inl (((p + 4 : Nat) : Int) + (a.length : Int))] _ _
  exact rri dm_Re_left_7 rfl ⟨vi (by omega), rfl⟩
set_option maxHeartbeats 4000000 in
set_option maxRecDepth 100000 in
theorem re_isBool {q : rS} {f t : Int} {p : Nat} {a : List Int} (hs : sg q p a) (ha : isTy a) (hf : f = p) (ht : t = (p : Int) + (a.length : Int)) (h1 : p + a.length ≤ 10000) : rM mm_Re_isBool [.inl f, .inl t] q (fun r q' => r = some (.inl (if a = [1] then 1 else 0)) ∧ q' = q) := by
  refine rm rfl (nl rfl) (fun E => ?_)
  show rX E _ 0 [some (.inr (some E.1.length)), some (.inl f), some (.inl t)] [] _ _
  refine rx (xs_iload_n dm_Re_isBool_0 rfl) ?_
  refine rx (xs_iload_n dm_Re_isBool_1 rfl) ?_
  refine rx (xs_isub dm_Re_isBool_2) ?_
  refine rx (xs_iconst dm_Re_isBool_3) ?_
  refine xx_icmp_ne (tgt := 21) dm_Re_isBool_4 rfl (by unfold ir; omega) (by unfold ir; omega) (fun hc => ?_) (fun hc => ?_)
  · change rX E _ 21 _ _ _ _
    refine rx (xs_iconst dm_Re_isBool_21) ?_
    exact rrz dm_Re_isBool_22 rfl (Or.inl rfl) ⟨vi (by rw [if_neg (fun e => hc (by rw [e] at ht; simp at ht; omega))]), rfl⟩
  · change rX E _ 7 _ _ _ _
    have hl : a.length = 1 := by omega
    obtain ⟨x, e⟩ : ∃ x, a = [x] := List.length_eq_one_iff.mp hl
    subst e
    have hx := sg_hd hs
    have hir : ir x := isTy_ir ha x List.mem_cons_self
    refine rx (xs_aload_n dm_Re_isBool_7 rfl) ?_
    refine rx (rg (v := .inr (some (rA E 0))) dm_Re_isBool_8 lf_Re_7 rfl) ?_
    refine rx (xs_iload_n dm_Re_isBool_11 rfl) ?_
    refine rx (rlv 0 x (by decide) dm_Re_isBool_12 (by omega) (by show _ < ((10000 : Nat) : Int); omega) (by rw [← hx]; congr 1; omega)) ?_
    refine rx (xs_iconst dm_Re_isBool_13) ?_
    refine xx_icmp_ne (tgt := 21) dm_Re_isBool_14 rfl hir (by unfold ir; omega) (fun hc2 => ?_) (fun hc2 => ?_)
    · change rX E _ 21 _ _ _ _
      refine rx (xs_iconst dm_Re_isBool_21) ?_
      exact rrz dm_Re_isBool_22 rfl (Or.inl rfl) ⟨vi (by rw [if_neg (fun e => hc2 (by simpa using e))]), rfl⟩
    · change rX E _ 17 _ _ _ _
      refine rx (xs_iconst dm_Re_isBool_17) ?_
      refine rx (xs_goto (tgt := 22) dm_Re_isBool_18 rfl) ?_
      exact rrz dm_Re_isBool_22 rfl (Or.inr rfl) ⟨vi (by rw [hc2]; rfl), rfl⟩
set_option maxHeartbeats 4000000 in
set_option maxRecDepth 100000 in
theorem re_beginEquation {q : rS} {f t : Int} {p : Nat} {a : List Int} (hs : sg q p a) (hf : f = p) (ht : t = (p : Int) + (a.length : Int)) (h0 : t ≤ q 6 5) (h1 : q 6 5 + 4 + (a.length : Int) ≤ 10000) : rM mm_Re_beginEquation [.inl f, .inl t] q (fun r q' => r = none ∧ q' = emL q (12 :: 12 :: 11 :: 0 :: a)) := by
  refine rm rfl (nl rfl) (fun E => ?_)
  show rX E _ 0 [some (.inr (some E.1.length)), some (.inl f), some (.inl t)] [] _ _
  have o1 := em_out q 12
  have o2 := em_out (em q 12) 12
  have o3 := em_out (em (em q 12) 12) 11
  have o4 := em_out (em (em (em q 12) 12) 11) 0
  refine rx (xs_aload_n dm_Re_beginEquation_0 rfl) ?_
  refine rx (xs_bipush dm_Re_beginEquation_1 (by decide)) ?_
  refine rcV (as := [.inl 12]) (rest := []) dm_Re_beginEquation_3 lc_Re_emit lm_Re_32 li_Re_emit (nr rfl rfl) rfl rfl rfl (nl rfl) (re_emit (x := 12) (by omega) (by omega)) ?_
  rintro _ _ ⟨rfl, rfl⟩
  show rX E _ 6 [some (.inr (some E.1.length)), some (.inl f), some (.inl t)] [] _ _
  refine rx (xs_aload_n dm_Re_beginEquation_6 rfl) ?_
  refine rx (xs_bipush dm_Re_beginEquation_7 (by decide)) ?_
  refine rcV (as := [.inl 12]) (rest := []) dm_Re_beginEquation_9 lc_Re_emit lm_Re_32 li_Re_emit (nr rfl rfl) rfl rfl rfl (nl rfl) (re_emit (x := 12) (by omega) (by omega)) ?_
  rintro _ _ ⟨rfl, rfl⟩
  show rX E _ 12 [some (.inr (some E.1.length)), some (.inl f), some (.inl t)] [] _ _
  refine rx (xs_aload_n dm_Re_beginEquation_12 rfl) ?_
  refine rx (xs_bipush dm_Re_beginEquation_13 (by decide)) ?_
  refine rcV (as := [.inl 11]) (rest := []) dm_Re_beginEquation_15 lc_Re_emit lm_Re_32 li_Re_emit (nr rfl rfl) rfl rfl rfl (nl rfl) (re_emit (x := 11) (by omega) (by omega)) ?_
  rintro _ _ ⟨rfl, rfl⟩
  show rX E _ 18 [some (.inr (some E.1.length)), some (.inl f), some (.inl t)] [] _ _
  refine rx (xs_aload_n dm_Re_beginEquation_18 rfl) ?_
  refine rx (xs_iconst dm_Re_beginEquation_19) ?_
  refine rcV (as := [.inl 0]) (rest := []) dm_Re_beginEquation_20 lc_Re_emit lm_Re_32 li_Re_emit (nr rfl rfl) rfl rfl rfl (nl rfl) (re_emit (x := 0) (by omega) (by omega)) ?_
  rintro _ _ ⟨rfl, rfl⟩
  show rX E _ 23 [some (.inr (some E.1.length)), some (.inl f), some (.inl t)] [] _ _
  refine rx (xs_aload_n dm_Re_beginEquation_23 rfl) ?_
  refine rx (xs_iload_n dm_Re_beginEquation_24 rfl) ?_
  refine rx (xs_iload_n dm_Re_beginEquation_25 rfl) ?_
  have hs4 : sg (em (em (em (em q 12) 12) 11) 0) p a := emL_sgo (l := [12, 12, 11, 0]) (by omega) hs (by omega)
  refine rcV (as := [.inl f, .inl t]) (rest := []) dm_Re_beginEquation_26 lc_Re_emitRow lm_Re_43 li_Re_emitRow (nr rfl rfl) rfl rfl rfl (nl rfl) (re_emitRow hs4 hf ht (by omega) (by omega)) ?_
  rintro _ _ ⟨rfl, rfl⟩
  show rX E _ 29 [some (.inr (some E.1.length)), some (.inl f), some (.inl t)] [] _ _
  exact rrv dm_Re_beginEquation_29 rfl ⟨rfl, rfl⟩
/-- what is left of the type of = behind so many arguments -/
def eqT (a : List Int) : Nat → List Int
  | 0 => 0 :: (a ++ (0 :: (a ++ [1])))
  | 1 => 0 :: (a ++ [1])
  | _ => [1]
set_option maxHeartbeats 4000000 in
set_option maxRecDepth 100000 in
theorem re_equalAt_l {f g e : Int} {p : Nat} {a : List Int} (E : rE) (hf : f = p) (he : e = (p : Int) + (a.length : Int)) : ∀ (N k : Nat) (q : rS) (kk : Int), kk = k → k ≤ 2 → 2 ≤ k + N → sg q p a → e ≤ q 6 5 → q 6 5 + 2 * (a.length : Int) + 3 ≤ 10000 + (k : Int) * ((a.length : Int) + 1) → rX E mm_Re_equalAt 9 [some (.inr (some E.1.length)), some (.inl f), some (.inl g), some (.inl e), some (.inl kk)] [] q (fun r q' => r = none ∧ q' = emL q (eqT a k)) := by
  intro N
  induction N with
  | zero =>
    intro k q kk hk h2 hN hs h3 h4
    have hk2 : k = 2 := by omega
    subst hk2
    refine rx (xs_iload dm_Re_equalAt_9 rfl) ?_
    refine rx (xs_iconst dm_Re_equalAt_11) ?_
    refine rx (xs_icmp_ge_t (tgt := 32) dm_Re_equalAt_12 rfl (by unfold ir; omega) (by unfold ir; omega) (by omega)) ?_
    refine rx (xs_aload_n dm_Re_equalAt_32 rfl) ?_
    refine rx (xs_iconst dm_Re_equalAt_33) ?_
    refine rcV (as := [.inl 1]) (rest := []) dm_Re_equalAt_34 lc_Re_emit lm_Re_32 li_Re_emit (nr rfl rfl) rfl rfl rfl (nl rfl) (re_emit (x := 1) (by omega) (by omega)) ?_
    rintro _ _ ⟨rfl, rfl⟩
    show rX E _ 37 [some (.inr (some E.1.length)), some (.inl f), some (.inl g), some (.inl e), some (.inl kk)] [] _ _
    exact rrv dm_Re_equalAt_37 rfl ⟨rfl, rfl⟩
  | succ N ih =>
    intro k q kk hk h2 hN hs h3 h4
    by_cases hk2 : k = 2
    · subst hk2
      refine rx (xs_iload dm_Re_equalAt_9 rfl) ?_
      refine rx (xs_iconst dm_Re_equalAt_11) ?_
      refine rx (xs_icmp_ge_t (tgt := 32) dm_Re_equalAt_12 rfl (by unfold ir; omega) (by unfold ir; omega) (by omega)) ?_
      refine rx (xs_aload_n dm_Re_equalAt_32 rfl) ?_
      refine rx (xs_iconst dm_Re_equalAt_33) ?_
      refine rcV (as := [.inl 1]) (rest := []) dm_Re_equalAt_34 lc_Re_emit lm_Re_32 li_Re_emit (nr rfl rfl) rfl rfl rfl (nl rfl) (re_emit (x := 1) (by omega) (by omega)) ?_
      rintro _ _ ⟨rfl, rfl⟩
      show rX E _ 37 [some (.inr (some E.1.length)), some (.inl f), some (.inl g), some (.inl e), some (.inl kk)] [] _ _
      exact rrv dm_Re_equalAt_37 rfl ⟨rfl, rfl⟩
    · have h4b : q 6 5 + (a.length : Int) + 2 ≤ 10000 := by
        rcases (show k = 0 ∨ k = 1 by omega) with e0 | e0 <;> subst e0 <;> simp at h4 <;> omega
      refine rx (xs_iload dm_Re_equalAt_9 rfl) ?_
      refine rx (xs_iconst dm_Re_equalAt_11) ?_
      refine rx (xs_icmp_ge_f (tgt := 32) dm_Re_equalAt_12 rfl (by unfold ir; omega) (by unfold ir; omega) (by omega)) ?_
      refine rx (xs_aload_n dm_Re_equalAt_15 rfl) ?_
      refine rx (xs_iconst dm_Re_equalAt_16) ?_
      refine rcV (as := [.inl 0]) (rest := []) dm_Re_equalAt_17 lc_Re_emit lm_Re_32 li_Re_emit (nr rfl rfl) rfl rfl rfl (nl rfl) (re_emit (x := 0) (by omega) (by omega)) ?_
      rintro _ _ ⟨rfl, rfl⟩
      show rX E _ 20 [some (.inr (some E.1.length)), some (.inl f), some (.inl g), some (.inl e), some (.inl kk)] [] _ _
      refine rx (xs_aload_n dm_Re_equalAt_20 rfl) ?_
      refine rx (xs_iload_n dm_Re_equalAt_21 rfl) ?_
      refine rx (xs_iload_n dm_Re_equalAt_22 rfl) ?_
      have o1 := em_out q 0
      have hs1 : sg (em q 0) p a := emL_sgo (l := [0]) (by omega) hs (by omega)
      refine rcV (as := [.inl f, .inl e]) (rest := []) dm_Re_equalAt_23 lc_Re_emitRow lm_Re_43 li_Re_emitRow (nr rfl rfl) rfl rfl rfl (nl rfl) (re_emitRow hs1 hf he (by omega) (by omega)) ?_
      rintro _ _ ⟨rfl, rfl⟩
      show rX E _ 26 [some (.inr (some E.1.length)), some (.inl f), some (.inl g), some (.inl e), some (.inl kk)] [] _ _
      refine rx (xs_iinc dm_Re_equalAt_26 rfl (by decide)) ?_
      show rX E _ 29 [some (.inr (some E.1.length)), some (.inl f), some (.inl g), some (.inl e), some (.inl (kk + 1))] [] _ _
      refine rx (xs_goto (tgt := 9) dm_Re_equalAt_29 rfl) ?_
      have o2 := emL_out (em q 0) a
      refine rxq (ih (k + 1) (emL (em q 0) a) _ (by omega) (by omega) (by omega) (emL_sgo (by omega) hs1 (by omega)) (by omega) ?_) ?_
      · rcases (show k = 0 ∨ k = 1 by omega) with e0 | e0 <;> subst e0 <;> simp at h4 ⊢ <;> omega
      · rintro _ _ ⟨rfl, rfl⟩
        refine ⟨rfl, ?_⟩
        rcases (show k = 0 ∨ k = 1 by omega) with e0 | e0 <;> subst e0
        · show emL (emL (em q 0) a) (0 :: (a ++ [1])) = emL q (0 :: (a ++ (0 :: (a ++ [1]))))
          rw [emL_cons q, emL_app (em q 0)]
        · show emL (emL (em q 0) a) [1] = emL q (0 :: (a ++ [1]))
          rw [emL_cons q, emL_app (em q 0)]
set_option maxHeartbeats 4000000 in
set_option maxRecDepth 100000 in
theorem re_equalAt {q : rS} {f g : Int} {p k : Nat} {a : List Int} (hs : sg q p a) (ha : isTy a) (hf : f = p) (hg : g = k) (hk : k ≤ 2) (h3 : (p : Int) + (a.length : Int) ≤ q 6 5) (h4 : q 6 5 + 2 * (a.length : Int) + 3 ≤ 10000) : rM mm_Re_equalAt [.inl f, .inl g] q (fun r q' => r = none ∧ q' = emL q (eqT a k)) := by
  refine rm rfl (nl rfl) (fun E => ?_)
  show rX E _ 0 [some (.inr (some E.1.length)), some (.inl f), some (.inl g), none, none] [] _ _
  refine rx (xs_aload_n dm_Re_equalAt_0 rfl) ?_
  refine rx (xs_iload_n dm_Re_equalAt_1 rfl) ?_
  refine rcV (as := [.inl f]) (rest := []) dm_Re_equalAt_2 lc_Re_skipType lm_Re_36 li_Re_skipType (nr rfl rfl) rfl rfl rfl (nl rfl) (re_skipType hs ha hf (by omega)) ?_
  rintro _ q1 ⟨rfl, hq1⟩
  have hq1 := hq1.symm
  subst hq1
  show rX E _ 5 [some (.inr (some E.1.length)), some (.inl f), some (.inl g), none, none] [.inl ((p : Int) + (a.length : Int))] _ _
  refine rx (xs_istore_n dm_Re_equalAt_5 (by decide)) ?_
  show rX E _ 6 [some (.inr (some E.1.length)), some (.inl f), some (.inl g), some (.inl ((p : Int) + (a.length : Int))), none] [] _ _
  refine rx (xs_iload_n dm_Re_equalAt_6 rfl) ?_
  refine rx (xs_istore dm_Re_equalAt_7 (by decide)) ?_
  show rX E _ 9 [some (.inr (some E.1.length)), some (.inl f), some (.inl g), some (.inl ((p : Int) + (a.length : Int))), some (.inl g)] [] _ _
  have h5 : 0 ≤ (k : Int) * ((a.length : Int) + 1) := Int.mul_nonneg (by omega) (by omega)
  exact re_equalAt_l E hf rfl 2 k q _ hg hk (by omega) hs h3 (by omega)
