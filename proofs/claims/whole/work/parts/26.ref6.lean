theorem tsb_cons (k : Int) (T : List Int) (s : Int) (l : List Int) : tsb k T (s :: l) = (if s = 2 + k then T else [s]) ++ tsb k T l := rfl
theorem tms_hdT {n : Nat} {l : List Int} (h : tms n l) : hdT l := by
  cases n with
  | zero => exact Or.inl h
  | succ n =>
    obtain ⟨G, t, a, r, h1, h2, -⟩ := h
    subst h2
    exact isTm_hdT h1 r
theorem tsb_len {K : Int} {T : List Int} (hT : T.length ≤ 40) (l : List Int) : ((tsb K T l).length : Int) ≤ 40 * (l.length : Int) := by
  induction l with
  | nil => simp [tsb]
  | cons s l ih =>
    rw [tsb_cons, List.length_append, List.length_cons]
    split
    · omega
    · simp; omega
set_option maxHeartbeats 4000000 in
set_option maxRecDepth 100000 in
theorem re_retyped_i {f g y uf ut nx : Int} {pu : Nat} {T : List Int} {K : Int} {o6 o7 o8 : Option xV} (E : rE) (hy : y = 2 + K) (hK : 0 ≤ K ∧ K ≤ 3) (huf : uf = pu) (hut : ut = (pu : Int) + (T.length : Int)) (hTl : T.length ≤ 40) {Q : Option xV → rS → Prop} (l : List Int) : ∀ (k : Nat) (q : rS) (kk : Int), kk = k → sg q k l → sg q pu T → nx = (k : Int) + (l.length : Int) → (∀ s ∈ l, ir s) → nx ≤ q 6 5 → ut ≤ q 6 5 → q 6 5 + 40 * (l.length : Int) ≤ 10000 → (∀ kk', rX E mm_Re_retyped 137 [some (.inr (some E.1.length)), some (.inl f), some (.inl g), some (.inl y), some (.inl uf), some (.inl ut), o6, o7, o8, some (.inl nx), some (.inl kk')] [] (emL q (tsb K T l)) Q) → rX E mm_Re_retyped 91 [some (.inr (some E.1.length)), some (.inl f), some (.inl g), some (.inl y), some (.inl uf), some (.inl ut), o6, o7, o8, some (.inl nx), some (.inl kk)] [] q Q := by
  induction l with
  | nil =>
    intro k q kk hkk hs hT hnx hi h1 h2 h3 hQ
    simp at hnx
    refine rx (xs_iload dm_Re_retyped_91 rfl) ?_
    refine rx (xs_iload dm_Re_retyped_93 rfl) ?_
    refine rx (xs_icmp_ge_t (tgt := 137) dm_Re_retyped_95 rfl (by unfold ir; omega) (by unfold ir; omega) (by omega)) ?_
    exact hQ _
  | cons s l ih =>
    intro k q kk hkk hs hT hnx hi h1 h2 h3 hQ
    simp only [List.length_cons] at hnx h3
    have his : ir s := hi s List.mem_cons_self
    have hi2 : ∀ z ∈ l, ir z := fun z hz => hi z (List.mem_cons_of_mem _ hz)
    have o1 := em_out q s
    have o2 := emL_out q T
    rw [tsb_cons] at hQ
    refine rx (xs_iload dm_Re_retyped_91 rfl) ?_
    refine rx (xs_iload dm_Re_retyped_93 rfl) ?_
    refine rx (xs_icmp_ge_f (tgt := 137) dm_Re_retyped_95 rfl (by unfold ir; omega) (by unfold ir; omega) (by omega)) ?_
    refine rx (xs_aload_n dm_Re_retyped_98 rfl) ?_
    refine rx (rg (v := .inr (some (rA E 0))) dm_Re_retyped_99 lf_Re_7 rfl) ?_
    refine rx (xs_iload dm_Re_retyped_102 rfl) ?_
    refine rx (rlv 0 s (by decide) dm_Re_retyped_104 (by omega) (by show _ < ((10000 : Nat) : Int); omega) (by rw [hkk, Int.toNat_natCast]; exact sg_hd hs)) ?_
    refine rx (xs_iload_n dm_Re_retyped_105 rfl) ?_
    refine xx_icmp_ne (tgt := 120) dm_Re_retyped_106 rfl his (by unfold ir; omega) (fun hc => ?_) (fun hc => ?_)
    · change rX E _ 120 _ _ _ _
      rw [if_neg (by omega)] at hQ
      refine rx (xs_aload_n dm_Re_retyped_120 rfl) ?_
      refine rx (xs_aload_n dm_Re_retyped_121 rfl) ?_
      refine rx (rg (v := .inr (some (rA E 0))) dm_Re_retyped_122 lf_Re_7 rfl) ?_
      refine rx (xs_iload dm_Re_retyped_125 rfl) ?_
      refine rx (rlv 0 s (by decide) dm_Re_retyped_127 (by omega) (by show _ < ((10000 : Nat) : Int); omega) (by rw [hkk, Int.toNat_natCast]; exact sg_hd hs)) ?_
      refine rcV (as := [.inl s]) (rest := []) dm_Re_retyped_128 lc_Re_emit lm_Re_32 li_Re_emit (nr rfl rfl) rfl rfl rfl (nl rfl) (re_emit (x := s) (by omega) (by omega)) ?_
      rintro _ _ ⟨rfl, rfl⟩
      show rX E _ 131 [some (.inr (some E.1.length)), some (.inl f), some (.inl g), some (.inl y), some (.inl uf), some (.inl ut), o6, o7, o8, some (.inl nx), some (.inl kk)] [] _ _
      refine rx (xs_iinc dm_Re_retyped_131 rfl (by decide)) ?_
      show rX E _ 134 [some (.inr (some E.1.length)), some (.inl f), some (.inl g), some (.inl y), some (.inl uf), some (.inl ut), o6, o7, o8, some (.inl nx), some (.inl (kk + 1))] [] _ _
      refine rx (xs_goto (tgt := 91) dm_Re_retyped_134 rfl) ?_
      exact ih (k + 1) (em q s) _ (by omega) (emL_sgo (l := [s]) (by omega) (sg_tl hs) (by omega)) (emL_sgo (l := [s]) (by omega) hT (by omega)) (by omega) hi2 (by omega) (by omega) (by omega) hQ
    · change rX E _ 109 _ _ _ _
      rw [if_pos (by omega), emL_app] at hQ
      refine rx (xs_aload_n dm_Re_retyped_109 rfl) ?_
      refine rx (xs_iload dm_Re_retyped_110 rfl) ?_
      refine rx (xs_iload dm_Re_retyped_112 rfl) ?_
      refine rcV (as := [.inl uf, .inl ut]) (rest := []) dm_Re_retyped_114 lc_Re_emitRow lm_Re_43 li_Re_emitRow (nr rfl rfl) rfl rfl rfl (nl rfl) (re_emitRow hT huf hut (by omega) (by omega)) ?_
      rintro _ _ ⟨rfl, rfl⟩
      show rX E _ 117 [some (.inr (some E.1.length)), some (.inl f), some (.inl g), some (.inl y), some (.inl uf), some (.inl ut), o6, o7, o8, some (.inl nx), some (.inl kk)] [] _ _
      refine rx (xs_goto (tgt := 131) dm_Re_retyped_117 rfl) ?_
      refine rx (xs_iinc dm_Re_retyped_131 rfl (by decide)) ?_
      show rX E _ 134 [some (.inr (some E.1.length)), some (.inl f), some (.inl g), some (.inl y), some (.inl uf), some (.inl ut), o6, o7, o8, some (.inl nx), some (.inl (kk + 1))] [] _ _
      refine rx (xs_goto (tgt := 91) dm_Re_retyped_134 rfl) ?_
      exact ih (k + 1) (emL q T) _ (by omega) (emL_sgo (by omega) (sg_tl hs) (by omega)) (emL_sgo (by omega) hT (by omega)) (by omega) hi2 (by omega) (by omega) (by omega) hQ
set_option maxHeartbeats 4000000 in
set_option maxRecDepth 100000 in
theorem re_retyped_l {f g y uf ut : Int} {pu : Nat} {T : List Int} {K : Int} (E : rE) (hy : y = 2 + K) (hK : 0 ≤ K ∧ K ≤ 3) (huf : uf = pu) (hut : ut = (pu : Int) + (T.length : Int)) (hTl : T.length ≤ 40) : ∀ (N : Nat) (l : List Int) (n k : Nat) (q : rS) (pp : Int) (o7 o8 o9 o10 : Option xV), l.length < N → pp = k → sg q k l → sg q pu T → tms n l → g = (k : Int) + (l.length : Int) → (∀ s ∈ l, ir s) → g ≤ q 6 5 → ut ≤ q 6 5 → q 6 5 + 40 * (l.length : Int) ≤ 10000 → rX E mm_Re_retyped 3 [some (.inr (some E.1.length)), some (.inl f), some (.inl g), some (.inl y), some (.inl uf), some (.inl ut), some (.inl pp), o7, o8, o9, o10] [] q (fun r q' => r = none ∧ ∀ p, q' = emL q (rtC K T l p)) := by
  intro N
  induction N with
  | zero => intro l n k q pp o7 o8 o9 o10 hN; omega
  | succ N ih =>
    intro l n k q pp o7 o8 o9 o10 hN hpp hs hT ht hg hi h1 h2 h3
    cases n with
    | zero =>
      have hl : l = [] := ht
      subst hl
      simp at hg
      refine rx (xs_iload dm_Re_retyped_3 rfl) ?_
      refine rx (xs_iload_n dm_Re_retyped_5 rfl) ?_
      refine rx (xs_icmp_ge_t (tgt := 144) dm_Re_retyped_6 rfl (by unfold ir; omega) (by unfold ir; omega) (by omega)) ?_
      exact rrv dm_Re_retyped_144 rfl ⟨rfl, fun _ => rfl⟩
    | succ n =>
    obtain ⟨G, t, a, r, htm, hl, hr⟩ := ht
    subst hl
    have hrh := tms_hdT hr
    rcases isTm_inv htm with ⟨m, m0, m7, ha, e⟩ | ⟨m, m0, m7, ha, e⟩ | ⟨s, ha, e, -⟩ | ⟨d, hd, ha, e⟩ | ⟨f1, x1, s, hs1, ha1, hf1, hx1, e⟩ | ⟨s, u, b, hs1, hb1, hu, e, -⟩
    · subst e
      simp only [List.cons_append, List.append_assoc, List.nil_append, List.length_append, List.length_cons, List.length_nil] at hs hN hg h3 hi
      refine rx (xs_iload dm_Re_retyped_3 rfl) ?_
      refine rx (xs_iload_n dm_Re_retyped_5 rfl) ?_
      refine rx (xs_icmp_ge_f (tgt := 144) dm_Re_retyped_6 rfl (by unfold ir; omega) (by unfold ir; omega) (by omega)) ?_
      refine rx (xs_aload_n dm_Re_retyped_9 rfl) ?_
      refine rx (rg (v := .inr (some (rA E 0))) dm_Re_retyped_10 lf_Re_7 rfl) ?_
      refine rx (xs_iload dm_Re_retyped_13 rfl) ?_
      refine rx (rlv 0 10 (by decide) dm_Re_retyped_15 (by omega) (by show _ < ((10000 : Nat) : Int); omega) (by rw [hpp, Int.toNat_natCast]; exact sg_hd hs)) ?_
      refine rx (xs_istore dm_Re_retyped_16 (by decide)) ?_
      show rX E _ 18 [some (.inr (some E.1.length)), some (.inl f), some (.inl g), some (.inl y), some (.inl uf), some (.inl ut), some (.inl pp), some (.inl 10), o8, o9, o10] [] _ _
      refine rx (xs_iload dm_Re_retyped_18 rfl) ?_
      refine rx (xs_bipush dm_Re_retyped_20 (by decide)) ?_
      refine rx (xs_icmp_eq_t (tgt := 32) dm_Re_retyped_22 rfl (by unfold ir; omega) (by unfold ir; omega) (by decide)) ?_
      refine rx (xs_iload dm_Re_retyped_32 rfl) ?_
      refine rx (xs_iconst dm_Re_retyped_34) ?_
      refine rx (xs_iadd dm_Re_retyped_35) ?_
      refine rx (xs_goto (tgt := 43) dm_Re_retyped_36 rfl) ?_
      refine rx (xs_istore dm_Re_retyped_43 (by decide)) ?_
      show rX E _ 45 [some (.inr (some E.1.length)), some (.inl f), some (.inl g), some (.inl y), some (.inl uf), some (.inl ut), some (.inl pp), some (.inl 10), some (.inl (pp + 2)), o9, o10] [] _ _
      refine rx (xs_iload dm_Re_retyped_45 rfl) ?_
      refine rx (xs_bipush dm_Re_retyped_47 (by decide)) ?_
      refine rx (xs_icmp_eq_t (tgt := 66) dm_Re_retyped_49 rfl (by unfold ir; omega) (by unfold ir; omega) (by decide)) ?_
      refine rx (xs_aload_n dm_Re_retyped_66 rfl) ?_
      refine rx (xs_iload dm_Re_retyped_67 rfl) ?_
      have hs2 := sg_tl (sg_tl hs)
      rw [sg_app] at hs2
      have hs0 : sg q k [10, m] := sg_cons (sg_hd hs) (sg_cons (sg_hd (sg_tl hs)) sg_nil)
      have o1 := emL_out q [10, m]
      simp only [List.length_cons, List.length_nil] at o1
      refine rcV (as := [.inl (pp + 2)]) (rest := []) dm_Re_retyped_69 lc_Re_skipType lm_Re_36 li_Re_skipType (nr rfl rfl) rfl rfl rfl (nl rfl) (re_skipType (p := k + 1 + 1) hs2.1 ha (by omega) (by omega)) ?_
      rintro _ q1 ⟨rfl, hq1⟩
      have hq1 := hq1.symm
      subst hq1
      show rX E _ 72 [some (.inr (some E.1.length)), some (.inl f), some (.inl g), some (.inl y), some (.inl uf), some (.inl ut), some (.inl pp), some (.inl 10), some (.inl (pp + 2)), o9, o10] [.inl (((k + 1 + 1 : Nat) : Int) + (a.length : Int))] _ _
      refine rx (xs_goto (tgt := 77) dm_Re_retyped_72 rfl) ?_
      refine rx (xs_istore dm_Re_retyped_77 (by decide)) ?_
      show rX E _ 79 [some (.inr (some E.1.length)), some (.inl f), some (.inl g), some (.inl y), some (.inl uf), some (.inl ut), some (.inl pp), some (.inl 10), some (.inl (pp + 2)), some (.inl (((k + 1 + 1 : Nat) : Int) + (a.length : Int))), o10] [] _ _
      refine rx (xs_aload_n dm_Re_retyped_79 rfl) ?_
      refine rx (xs_iload dm_Re_retyped_80 rfl) ?_
      refine rx (xs_iload dm_Re_retyped_82 rfl) ?_
      refine rcV (as := [.inl pp, .inl (pp + 2)]) (rest := []) dm_Re_retyped_84 lc_Re_emitRow lm_Re_43 li_Re_emitRow (nr rfl rfl) rfl rfl rfl (nl rfl) (re_emitRow hs0 hpp (by simp; omega) (by omega) (by simp; omega)) ?_
      rintro _ _ ⟨rfl, rfl⟩
      show rX E _ 87 [some (.inr (some E.1.length)), some (.inl f), some (.inl g), some (.inl y), some (.inl uf), some (.inl ut), some (.inl pp), some (.inl 10), some (.inl (pp + 2)), some (.inl (((k + 1 + 1 : Nat) : Int) + (a.length : Int))), o10] [] _ _
      refine rx (xs_iload dm_Re_retyped_87 rfl) ?_
      refine rx (xs_istore dm_Re_retyped_89 (by decide)) ?_
      show rX E _ 91 [some (.inr (some E.1.length)), some (.inl f), some (.inl g), some (.inl y), some (.inl uf), some (.inl ut), some (.inl pp), some (.inl 10), some (.inl (pp + 2)), some (.inl (((k + 1 + 1 : Nat) : Int) + (a.length : Int))), some (.inl (pp + 2))] [] _ _
      refine re_retyped_i E hy hK huf hut hTl a (k + 1 + 1) (emL q [10, m]) _ (by omega) (emL_sgo (by omega) hs2.1 (by omega)) (emL_sgo (by omega) hT (by omega)) (by omega) (isTy_ir ha) (by omega) (by omega) (by omega) (fun kk' => ?_)
      have o2 := emL_out (emL q [10, m]) (tsb K T a)
      have hts : ((tsb K T a).length : Int) ≤ 40 * (a.length : Int) := tsb_len hTl a
      refine rx (xs_iload dm_Re_retyped_137 rfl) ?_
      refine rx (xs_istore dm_Re_retyped_139 (by decide)) ?_
      show rX E _ 141 [some (.inr (some E.1.length)), some (.inl f), some (.inl g), some (.inl y), some (.inl uf), some (.inl ut), some (.inl (((k + 1 + 1 : Nat) : Int) + (a.length : Int))), some (.inl 10), some (.inl (pp + 2)), some (.inl (((k + 1 + 1 : Nat) : Int) + (a.length : Int))), some (.inl kk')] [] _ _
      refine rx (xs_goto (tgt := 3) dm_Re_retyped_141 rfl) ?_
      refine rxq (ih r n (k + 1 + 1 + a.length) _ _ _ _ _ _ (by omega) (by omega) (emL_sgo (by omega) (emL_sgo (by omega) hs2.2 (by omega)) (by omega)) (emL_sgo (by omega) (emL_sgo (by omega) hT (by omega)) (by omega)) hr (by omega) (fun z hz => hi z (by simp [hz])) (by omega) (by omega) (by omega)) ?_
      rintro _ _ ⟨rfl, hq⟩
      refine ⟨rfl, fun p => ?_⟩
      rw [hq 0]
      simp only [List.cons_append, List.append_assoc]
      rw [rtC_up (by decide), rtC_nm (by decide), rtC_low (isTy_low ha) hrh _ (by omega) (by omega) 0]
      simp [emL]
    · subst e
      simp only [List.cons_append, List.append_assoc, List.nil_append, List.length_append, List.length_cons, List.length_nil] at hs hN hg h3 hi
      refine rx (xs_iload dm_Re_retyped_3 rfl) ?_
      refine rx (xs_iload_n dm_Re_retyped_5 rfl) ?_
      refine rx (xs_icmp_ge_f (tgt := 144) dm_Re_retyped_6 rfl (by unfold ir; omega) (by unfold ir; omega) (by omega)) ?_
      refine rx (xs_aload_n dm_Re_retyped_9 rfl) ?_
      refine rx (rg (v := .inr (some (rA E 0))) dm_Re_retyped_10 lf_Re_7 rfl) ?_
      refine rx (xs_iload dm_Re_retyped_13 rfl) ?_
      refine rx (rlv 0 11 (by decide) dm_Re_retyped_15 (by omega) (by show _ < ((10000 : Nat) : Int); omega) (by rw [hpp, Int.toNat_natCast]; exact sg_hd hs)) ?_
      refine rx (xs_istore dm_Re_retyped_16 (by decide)) ?_
      show rX E _ 18 [some (.inr (some E.1.length)), some (.inl f), some (.inl g), some (.inl y), some (.inl uf), some (.inl ut), some (.inl pp), some (.inl 11), o8, o9, o10] [] _ _
      refine rx (xs_iload dm_Re_retyped_18 rfl) ?_
      refine rx (xs_bipush dm_Re_retyped_20 (by decide)) ?_
      refine rx (xs_icmp_eq_f (tgt := 32) dm_Re_retyped_22 rfl (by unfold ir; omega) (by unfold ir; omega) (by decide)) ?_
      refine rx (xs_iload dm_Re_retyped_25 rfl) ?_
      refine rx (xs_bipush dm_Re_retyped_27 (by decide)) ?_
      refine rx (xs_icmp_ne_f (tgt := 39) dm_Re_retyped_29 rfl (by unfold ir; omega) (by unfold ir; omega) (by decide)) ?_
      refine rx (xs_iload dm_Re_retyped_32 rfl) ?_
      refine rx (xs_iconst dm_Re_retyped_34) ?_
      refine rx (xs_iadd dm_Re_retyped_35) ?_
      refine rx (xs_goto (tgt := 43) dm_Re_retyped_36 rfl) ?_
      refine rx (xs_istore dm_Re_retyped_43 (by decide)) ?_
      show rX E _ 45 [some (.inr (some E.1.length)), some (.inl f), some (.inl g), some (.inl y), some (.inl uf), some (.inl ut), some (.inl pp), some (.inl 11), some (.inl (pp + 2)), o9, o10] [] _ _
      refine rx (xs_iload dm_Re_retyped_45 rfl) ?_
      refine rx (xs_bipush dm_Re_retyped_47 (by decide)) ?_
      refine rx (xs_icmp_eq_f (tgt := 66) dm_Re_retyped_49 rfl (by unfold ir; omega) (by unfold ir; omega) (by decide)) ?_
      refine rx (xs_iload dm_Re_retyped_52 rfl) ?_
      refine rx (xs_bipush dm_Re_retyped_54 (by decide)) ?_
      refine rx (xs_icmp_eq_t (tgt := 66) dm_Re_retyped_56 rfl (by unfold ir; omega) (by unfold ir; omega) (by decide)) ?_
      refine rx (xs_aload_n dm_Re_retyped_66 rfl) ?_
      refine rx (xs_iload dm_Re_retyped_67 rfl) ?_
      have hs2 := sg_tl (sg_tl hs)
      rw [sg_app] at hs2
      have hs0 : sg q k [11, m] := sg_cons (sg_hd hs) (sg_cons (sg_hd (sg_tl hs)) sg_nil)
      have o1 := emL_out q [11, m]
      simp only [List.length_cons, List.length_nil] at o1
      refine rcV (as := [.inl (pp + 2)]) (rest := []) dm_Re_retyped_69 lc_Re_skipType lm_Re_36 li_Re_skipType (nr rfl rfl) rfl rfl rfl (nl rfl) (re_skipType (p := k + 1 + 1) hs2.1 ha (by omega) (by omega)) ?_
      rintro _ q1 ⟨rfl, hq1⟩
      have hq1 := hq1.symm
      subst hq1
      show rX E _ 72 [some (.inr (some E.1.length)), some (.inl f), some (.inl g), some (.inl y), some (.inl uf), some (.inl ut), some (.inl pp), some (.inl 11), some (.inl (pp + 2)), o9, o10] [.inl (((k + 1 + 1 : Nat) : Int) + (a.length : Int))] _ _
      refine rx (xs_goto (tgt := 77) dm_Re_retyped_72 rfl) ?_
      refine rx (xs_istore dm_Re_retyped_77 (by decide)) ?_
      show rX E _ 79 [some (.inr (some E.1.length)), some (.inl f), some (.inl g), some (.inl y), some (.inl uf), some (.inl ut), some (.inl pp), some (.inl 11), some (.inl (pp + 2)), some (.inl (((k + 1 + 1 : Nat) : Int) + (a.length : Int))), o10] [] _ _
      refine rx (xs_aload_n dm_Re_retyped_79 rfl) ?_
      refine rx (xs_iload dm_Re_retyped_80 rfl) ?_
      refine rx (xs_iload dm_Re_retyped_82 rfl) ?_
      refine rcV (as := [.inl pp, .inl (pp + 2)]) (rest := []) dm_Re_retyped_84 lc_Re_emitRow lm_Re_43 li_Re_emitRow (nr rfl rfl) rfl rfl rfl (nl rfl) (re_emitRow hs0 hpp (by simp; omega) (by omega) (by simp; omega)) ?_
      rintro _ _ ⟨rfl, rfl⟩
      show rX E _ 87 [some (.inr (some E.1.length)), some (.inl f), some (.inl g), some (.inl y), some (.inl uf), some (.inl ut), some (.inl pp), some (.inl 11), some (.inl (pp + 2)), some (.inl (((k + 1 + 1 : Nat) : Int) + (a.length : Int))), o10] [] _ _
      refine rx (xs_iload dm_Re_retyped_87 rfl) ?_
      refine rx (xs_istore dm_Re_retyped_89 (by decide)) ?_
      show rX E _ 91 [some (.inr (some E.1.length)), some (.inl f), some (.inl g), some (.inl y), some (.inl uf), some (.inl ut), some (.inl pp), some (.inl 11), some (.inl (pp + 2)), some (.inl (((k + 1 + 1 : Nat) : Int) + (a.length : Int))), some (.inl (pp + 2))] [] _ _
      refine re_retyped_i E hy hK huf hut hTl a (k + 1 + 1) (emL q [11, m]) _ (by omega) (emL_sgo (by omega) hs2.1 (by omega)) (emL_sgo (by omega) hT (by omega)) (by omega) (isTy_ir ha) (by omega) (by omega) (by omega) (fun kk' => ?_)
      have o2 := emL_out (emL q [11, m]) (tsb K T a)
      have hts : ((tsb K T a).length : Int) ≤ 40 * (a.length : Int) := tsb_len hTl a
      refine rx (xs_iload dm_Re_retyped_137 rfl) ?_
      refine rx (xs_istore dm_Re_retyped_139 (by decide)) ?_
      show rX E _ 141 [some (.inr (some E.1.length)), some (.inl f), some (.inl g), some (.inl y), some (.inl uf), some (.inl ut), some (.inl (((k + 1 + 1 : Nat) : Int) + (a.length : Int))), some (.inl 11), some (.inl (pp + 2)), some (.inl (((k + 1 + 1 : Nat) : Int) + (a.length : Int))), some (.inl kk')] [] _ _
      refine rx (xs_goto (tgt := 3) dm_Re_retyped_141 rfl) ?_
      refine rxq (ih r n (k + 1 + 1 + a.length) _ _ _ _ _ _ (by omega) (by omega) (emL_sgo (by omega) (emL_sgo (by omega) hs2.2 (by omega)) (by omega)) (emL_sgo (by omega) (emL_sgo (by omega) hT (by omega)) (by omega)) hr (by omega) (fun z hz => hi z (by simp [hz])) (by omega) (by omega) (by omega)) ?_
      rintro _ _ ⟨rfl, hq⟩
      refine ⟨rfl, fun p => ?_⟩
      rw [hq 0]
      simp only [List.cons_append, List.append_assoc]
      rw [rtC_up (by decide), rtC_nm (by decide), rtC_low (isTy_low ha) hrh _ (by omega) (by omega) 0]
      simp [emL]
    · subst e
      simp only [List.cons_append, List.append_assoc, List.nil_append, List.length_append, List.length_cons, List.length_nil] at hs hN hg h3 hi
      refine rx (xs_iload dm_Re_retyped_3 rfl) ?_
      refine rx (xs_iload_n dm_Re_retyped_5 rfl) ?_
      refine rx (xs_icmp_ge_f (tgt := 144) dm_Re_retyped_6 rfl (by unfold ir; omega) (by unfold ir; omega) (by omega)) ?_
      refine rx (xs_aload_n dm_Re_retyped_9 rfl) ?_
      refine rx (rg (v := .inr (some (rA E 0))) dm_Re_retyped_10 lf_Re_7 rfl) ?_
      refine rx (xs_iload dm_Re_retyped_13 rfl) ?_
      refine rx (rlv 0 11 (by decide) dm_Re_retyped_15 (by omega) (by show _ < ((10000 : Nat) : Int); omega) (by rw [hpp, Int.toNat_natCast]; exact sg_hd hs)) ?_
      refine rx (xs_istore dm_Re_retyped_16 (by decide)) ?_
      show rX E _ 18 [some (.inr (some E.1.length)), some (.inl f), some (.inl g), some (.inl y), some (.inl uf), some (.inl ut), some (.inl pp), some (.inl 11), o8, o9, o10] [] _ _
      refine rx (xs_iload dm_Re_retyped_18 rfl) ?_
      refine rx (xs_bipush dm_Re_retyped_20 (by decide)) ?_
      refine rx (xs_icmp_eq_f (tgt := 32) dm_Re_retyped_22 rfl (by unfold ir; omega) (by unfold ir; omega) (by decide)) ?_
      refine rx (xs_iload dm_Re_retyped_25 rfl) ?_
      refine rx (xs_bipush dm_Re_retyped_27 (by decide)) ?_
      refine rx (xs_icmp_ne_f (tgt := 39) dm_Re_retyped_29 rfl (by unfold ir; omega) (by unfold ir; omega) (by decide)) ?_
      refine rx (xs_iload dm_Re_retyped_32 rfl) ?_
      refine rx (xs_iconst dm_Re_retyped_34) ?_
      refine rx (xs_iadd dm_Re_retyped_35) ?_
      refine rx (xs_goto (tgt := 43) dm_Re_retyped_36 rfl) ?_
      refine rx (xs_istore dm_Re_retyped_43 (by decide)) ?_
      show rX E _ 45 [some (.inr (some E.1.length)), some (.inl f), some (.inl g), some (.inl y), some (.inl uf), some (.inl ut), some (.inl pp), some (.inl 11), some (.inl (pp + 2)), o9, o10] [] _ _
      refine rx (xs_iload dm_Re_retyped_45 rfl) ?_
      refine rx (xs_bipush dm_Re_retyped_47 (by decide)) ?_
      refine rx (xs_icmp_eq_f (tgt := 66) dm_Re_retyped_49 rfl (by unfold ir; omega) (by unfold ir; omega) (by decide)) ?_
      refine rx (xs_iload dm_Re_retyped_52 rfl) ?_
      refine rx (xs_bipush dm_Re_retyped_54 (by decide)) ?_
      refine rx (xs_icmp_eq_t (tgt := 66) dm_Re_retyped_56 rfl (by unfold ir; omega) (by unfold ir; omega) (by decide)) ?_
      refine rx (xs_aload_n dm_Re_retyped_66 rfl) ?_
      refine rx (xs_iload dm_Re_retyped_67 rfl) ?_
      have hs2 := sg_tl (sg_tl hs)
      rw [sg_app] at hs2
      have hs0 : sg q k [11, 0] := sg_cons (sg_hd hs) (sg_cons (sg_hd (sg_tl hs)) sg_nil)
      have o1 := emL_out q [11, 0]
      simp only [List.length_cons, List.length_nil] at o1
      refine rcV (as := [.inl (pp + 2)]) (rest := []) dm_Re_retyped_69 lc_Re_skipType lm_Re_36 li_Re_skipType (nr rfl rfl) rfl rfl rfl (nl rfl) (re_skipType (p := k + 1 + 1) hs2.1 ha (by omega) (by omega)) ?_
      rintro _ q1 ⟨rfl, hq1⟩
      have hq1 := hq1.symm
      subst hq1
      show rX E _ 72 [some (.inr (some E.1.length)), some (.inl f), some (.inl g), some (.inl y), some (.inl uf), some (.inl ut), some (.inl pp), some (.inl 11), some (.inl (pp + 2)), o9, o10] [.inl (((k + 1 + 1 : Nat) : Int) + (s.length : Int))] _ _
      refine rx (xs_goto (tgt := 77) dm_Re_retyped_72 rfl) ?_
      refine rx (xs_istore dm_Re_retyped_77 (by decide)) ?_
      show rX E _ 79 [some (.inr (some E.1.length)), some (.inl f), some (.inl g), some (.inl y), some (.inl uf), some (.inl ut), some (.inl pp), some (.inl 11), some (.inl (pp + 2)), some (.inl (((k + 1 + 1 : Nat) : Int) + (s.length : Int))), o10] [] _ _
      refine rx (xs_aload_n dm_Re_retyped_79 rfl) ?_
      refine rx (xs_iload dm_Re_retyped_80 rfl) ?_
      refine rx (xs_iload dm_Re_retyped_82 rfl) ?_
      refine rcV (as := [.inl pp, .inl (pp + 2)]) (rest := []) dm_Re_retyped_84 lc_Re_emitRow lm_Re_43 li_Re_emitRow (nr rfl rfl) rfl rfl rfl (nl rfl) (re_emitRow hs0 hpp (by simp; omega) (by omega) (by simp; omega)) ?_
      rintro _ _ ⟨rfl, rfl⟩
      show rX E _ 87 [some (.inr (some E.1.length)), some (.inl f), some (.inl g), some (.inl y), some (.inl uf), some (.inl ut), some (.inl pp), some (.inl 11), some (.inl (pp + 2)), some (.inl (((k + 1 + 1 : Nat) : Int) + (s.length : Int))), o10] [] _ _
      refine rx (xs_iload dm_Re_retyped_87 rfl) ?_
      refine rx (xs_istore dm_Re_retyped_89 (by decide)) ?_
      show rX E _ 91 [some (.inr (some E.1.length)), some (.inl f), some (.inl g), some (.inl y), some (.inl uf), some (.inl ut), some (.inl pp), some (.inl 11), some (.inl (pp + 2)), some (.inl (((k + 1 + 1 : Nat) : Int) + (s.length : Int))), some (.inl (pp + 2))] [] _ _
      refine re_retyped_i E hy hK huf hut hTl s (k + 1 + 1) (emL q [11, 0]) _ (by omega) (emL_sgo (by omega) hs2.1 (by omega)) (emL_sgo (by omega) hT (by omega)) (by omega) (isTy_ir ha) (by omega) (by omega) (by omega) (fun kk' => ?_)
      have o2 := emL_out (emL q [11, 0]) (tsb K T s)
      have hts : ((tsb K T s).length : Int) ≤ 40 * (s.length : Int) := tsb_len hTl s
      refine rx (xs_iload dm_Re_retyped_137 rfl) ?_
      refine rx (xs_istore dm_Re_retyped_139 (by decide)) ?_
      show rX E _ 141 [some (.inr (some E.1.length)), some (.inl f), some (.inl g), some (.inl y), some (.inl uf), some (.inl ut), some (.inl (((k + 1 + 1 : Nat) : Int) + (s.length : Int))), some (.inl 11), some (.inl (pp + 2)), some (.inl (((k + 1 + 1 : Nat) : Int) + (s.length : Int))), some (.inl kk')] [] _ _
      refine rx (xs_goto (tgt := 3) dm_Re_retyped_141 rfl) ?_
      refine rxq (ih r n (k + 1 + 1 + s.length) _ _ _ _ _ _ (by omega) (by omega) (emL_sgo (by omega) (emL_sgo (by omega) hs2.2 (by omega)) (by omega)) (emL_sgo (by omega) (emL_sgo (by omega) hT (by omega)) (by omega)) hr (by omega) (fun z hz => hi z (by simp [hz])) (by omega) (by omega) (by omega)) ?_
      rintro _ _ ⟨rfl, hq⟩
      refine ⟨rfl, fun p => ?_⟩
      rw [hq 0]
      simp only [List.cons_append, List.append_assoc]
      rw [rtC_up (by decide), rtC_nm (by decide), rtC_low (isTy_low ha) hrh _ (by omega) (by omega) 0]
      simp [emL]
    · subst e
      simp only [List.cons_append, List.append_assoc, List.nil_append, List.length_append, List.length_cons, List.length_nil] at hs hN hg h3 hi
      refine rx (xs_iload dm_Re_retyped_3 rfl) ?_
      refine rx (xs_iload_n dm_Re_retyped_5 rfl) ?_
      refine rx (xs_icmp_ge_f (tgt := 144) dm_Re_retyped_6 rfl (by unfold ir; omega) (by unfold ir; omega) (by omega)) ?_
      refine rx (xs_aload_n dm_Re_retyped_9 rfl) ?_
      refine rx (rg (v := .inr (some (rA E 0))) dm_Re_retyped_10 lf_Re_7 rfl) ?_
      refine rx (xs_iload dm_Re_retyped_13 rfl) ?_
      refine rx (rlv 0 (20 + (d : Int)) (by decide) dm_Re_retyped_15 (by omega) (by show _ < ((10000 : Nat) : Int); omega) (by rw [hpp, Int.toNat_natCast]; exact sg_hd hs)) ?_
      refine rx (xs_istore dm_Re_retyped_16 (by decide)) ?_
      show rX E _ 18 [some (.inr (some E.1.length)), some (.inl f), some (.inl g), some (.inl y), some (.inl uf), some (.inl ut), some (.inl pp), some (.inl (20 + (d : Int))), o8, o9, o10] [] _ _
      refine rx (xs_iload dm_Re_retyped_18 rfl) ?_
      refine rx (xs_bipush dm_Re_retyped_20 (by decide)) ?_
      have hib : ir (20 + (d : Int)) := hi _ List.mem_cons_self
      have hs0 : sg q k [20 + (d : Int)] := sg_cons (sg_hd hs) sg_nil
      have o1 := emL_out q [20 + (d : Int)]
      simp only [List.length_cons, List.length_nil] at o1
      refine rx (xs_icmp_eq_f (tgt := 32) dm_Re_retyped_22 rfl hib (by unfold ir; omega) (by omega)) ?_
      refine rx (xs_iload dm_Re_retyped_25 rfl) ?_
      refine rx (xs_bipush dm_Re_retyped_27 (by decide)) ?_
      refine rx (xs_icmp_ne_t (tgt := 39) dm_Re_retyped_29 rfl hib (by unfold ir; omega) (by omega)) ?_
      refine rx (xs_iload dm_Re_retyped_39 rfl) ?_
      refine rx (xs_iconst dm_Re_retyped_41) ?_
      refine rx (xs_iadd dm_Re_retyped_42) ?_
      refine rx (xs_istore dm_Re_retyped_43 (by decide)) ?_
      show rX E _ 45 [some (.inr (some E.1.length)), some (.inl f), some (.inl g), some (.inl y), some (.inl uf), some (.inl ut), some (.inl pp), some (.inl (20 + (d : Int))), some (.inl (pp + 1)), o9, o10] [] _ _
      refine rx (xs_iload dm_Re_retyped_45 rfl) ?_
      refine rx (xs_bipush dm_Re_retyped_47 (by decide)) ?_
      refine rx (xs_icmp_eq_f (tgt := 66) dm_Re_retyped_49 rfl hib (by unfold ir; omega) (by omega)) ?_
      refine rx (xs_iload dm_Re_retyped_52 rfl) ?_
      refine rx (xs_bipush dm_Re_retyped_54 (by decide)) ?_
      refine rx (xs_icmp_eq_f (tgt := 66) dm_Re_retyped_56 rfl hib (by unfold ir; omega) (by omega)) ?_
      refine rx (xs_iload dm_Re_retyped_59 rfl) ?_
      refine rx (xs_bipush dm_Re_retyped_61 (by decide)) ?_
      refine rx (xs_icmp_ne_t (tgt := 75) dm_Re_retyped_63 rfl hib (by unfold ir; omega) (by omega)) ?_
      refine rx (xs_iload dm_Re_retyped_75 rfl) ?_
      refine rx (xs_istore dm_Re_retyped_77 (by decide)) ?_
      show rX E _ 79 [some (.inr (some E.1.length)), some (.inl f), some (.inl g), some (.inl y), some (.inl uf), some (.inl ut), some (.inl pp), some (.inl (20 + (d : Int))), some (.inl (pp + 1)), some (.inl (pp + 1)), o10] [] _ _
      refine rx (xs_aload_n dm_Re_retyped_79 rfl) ?_
      refine rx (xs_iload dm_Re_retyped_80 rfl) ?_
      refine rx (xs_iload dm_Re_retyped_82 rfl) ?_
      refine rcV (as := [.inl pp, .inl (pp + 1)]) (rest := []) dm_Re_retyped_84 lc_Re_emitRow lm_Re_43 li_Re_emitRow (nr rfl rfl) rfl rfl rfl (nl rfl) (re_emitRow hs0 hpp (by simp; omega) (by omega) (by simp; omega)) ?_
      rintro _ _ ⟨rfl, rfl⟩
      show rX E _ 87 [some (.inr (some E.1.length)), some (.inl f), some (.inl g), some (.inl y), some (.inl uf), some (.inl ut), some (.inl pp), some (.inl (20 + (d : Int))), some (.inl (pp + 1)), some (.inl (pp + 1)), o10] [] _ _
      refine rx (xs_iload dm_Re_retyped_87 rfl) ?_
      refine rx (xs_istore dm_Re_retyped_89 (by decide)) ?_
      show rX E _ 91 [some (.inr (some E.1.length)), some (.inl f), some (.inl g), some (.inl y), some (.inl uf), some (.inl ut), some (.inl pp), some (.inl (20 + (d : Int))), some (.inl (pp + 1)), some (.inl (pp + 1)), some (.inl (pp + 1))] [] _ _
      refine rx (xs_iload dm_Re_retyped_91 rfl) ?_
      refine rx (xs_iload dm_Re_retyped_93 rfl) ?_
      refine rx (xs_icmp_ge_t (tgt := 137) dm_Re_retyped_95 rfl (by unfold ir; omega) (by unfold ir; omega) (by omega)) ?_
      refine rx (xs_iload dm_Re_retyped_137 rfl) ?_
      refine rx (xs_istore dm_Re_retyped_139 (by decide)) ?_
      show rX E _ 141 [some (.inr (some E.1.length)), some (.inl f), some (.inl g), some (.inl y), some (.inl uf), some (.inl ut), some (.inl (pp + 1)), some (.inl (20 + (d : Int))), some (.inl (pp + 1)), some (.inl (pp + 1)), some (.inl (pp + 1))] [] _ _
      refine rx (xs_goto (tgt := 3) dm_Re_retyped_141 rfl) ?_
      refine rxq (ih r n (k + 1) _ _ _ _ _ _ (by omega) (by omega) (emL_sgo (by omega) (sg_tl hs) (by omega)) (emL_sgo (by omega) hT (by omega)) hr (by omega) (fun z hz => hi z (by simp [hz])) (by omega) (by omega) (by omega)) ?_
      rintro _ _ ⟨rfl, hq⟩
      refine ⟨rfl, fun p => ?_⟩
      rw [hq 0]
      simp only [List.cons_append, List.nil_append]
      rw [rtC_up (by omega), rtC_hd hrh (20 + (d : Int)) 0]
      simp [emL]
    · subst e
      simp only [List.cons_append, List.append_assoc, List.nil_append, List.length_append, List.length_cons, List.length_nil] at hs hN hg h3 hi
      refine rx (xs_iload dm_Re_retyped_3 rfl) ?_
      refine rx (xs_iload_n dm_Re_retyped_5 rfl) ?_
      refine rx (xs_icmp_ge_f (tgt := 144) dm_Re_retyped_6 rfl (by unfold ir; omega) (by unfold ir; omega) (by omega)) ?_
      refine rx (xs_aload_n dm_Re_retyped_9 rfl) ?_
      refine rx (rg (v := .inr (some (rA E 0))) dm_Re_retyped_10 lf_Re_7 rfl) ?_
      refine rx (xs_iload dm_Re_retyped_13 rfl) ?_
      refine rx (rlv 0 12 (by decide) dm_Re_retyped_15 (by omega) (by show _ < ((10000 : Nat) : Int); omega) (by rw [hpp, Int.toNat_natCast]; exact sg_hd hs)) ?_
      refine rx (xs_istore dm_Re_retyped_16 (by decide)) ?_
      show rX E _ 18 [some (.inr (some E.1.length)), some (.inl f), some (.inl g), some (.inl y), some (.inl uf), some (.inl ut), some (.inl pp), some (.inl 12), o8, o9, o10] [] _ _
      refine rx (xs_iload dm_Re_retyped_18 rfl) ?_
      refine rx (xs_bipush dm_Re_retyped_20 (by decide)) ?_
      have hs0 : sg q k [12] := sg_cons (sg_hd hs) sg_nil
      have o1 := emL_out q [12]
      simp only [List.length_cons, List.length_nil] at o1
      refine rx (xs_icmp_eq_f (tgt := 32) dm_Re_retyped_22 rfl (by unfold ir; omega) (by unfold ir; omega) (by decide)) ?_
      refine rx (xs_iload dm_Re_retyped_25 rfl) ?_
      refine rx (xs_bipush dm_Re_retyped_27 (by decide)) ?_
      refine rx (xs_icmp_ne_t (tgt := 39) dm_Re_retyped_29 rfl (by unfold ir; omega) (by unfold ir; omega) (by decide)) ?_
      refine rx (xs_iload dm_Re_retyped_39 rfl) ?_
      refine rx (xs_iconst dm_Re_retyped_41) ?_
      refine rx (xs_iadd dm_Re_retyped_42) ?_
      refine rx (xs_istore dm_Re_retyped_43 (by decide)) ?_
      show rX E _ 45 [some (.inr (some E.1.length)), some (.inl f), some (.inl g), some (.inl y), some (.inl uf), some (.inl ut), some (.inl pp), some (.inl 12), some (.inl (pp + 1)), o9, o10] [] _ _
      refine rx (xs_iload dm_Re_retyped_45 rfl) ?_
      refine rx (xs_bipush dm_Re_retyped_47 (by decide)) ?_
      refine rx (xs_icmp_eq_f (tgt := 66) dm_Re_retyped_49 rfl (by unfold ir; omega) (by unfold ir; omega) (by decide)) ?_
      refine rx (xs_iload dm_Re_retyped_52 rfl) ?_
      refine rx (xs_bipush dm_Re_retyped_54 (by decide)) ?_
      refine rx (xs_icmp_eq_f (tgt := 66) dm_Re_retyped_56 rfl (by unfold ir; omega) (by unfold ir; omega) (by decide)) ?_
      refine rx (xs_iload dm_Re_retyped_59 rfl) ?_
      refine rx (xs_bipush dm_Re_retyped_61 (by decide)) ?_
      refine rx (xs_icmp_ne_t (tgt := 75) dm_Re_retyped_63 rfl (by unfold ir; omega) (by unfold ir; omega) (by decide)) ?_
      refine rx (xs_iload dm_Re_retyped_75 rfl) ?_
      refine rx (xs_istore dm_Re_retyped_77 (by decide)) ?_
      show rX E _ 79 [some (.inr (some E.1.length)), some (.inl f), some (.inl g), some (.inl y), some (.inl uf), some (.inl ut), some (.inl pp), some (.inl 12), some (.inl (pp + 1)), some (.inl (pp + 1)), o10] [] _ _
      refine rx (xs_aload_n dm_Re_retyped_79 rfl) ?_
      refine rx (xs_iload dm_Re_retyped_80 rfl) ?_
      refine rx (xs_iload dm_Re_retyped_82 rfl) ?_
      refine rcV (as := [.inl pp, .inl (pp + 1)]) (rest := []) dm_Re_retyped_84 lc_Re_emitRow lm_Re_43 li_Re_emitRow (nr rfl rfl) rfl rfl rfl (nl rfl) (re_emitRow hs0 hpp (by simp; omega) (by omega) (by simp; omega)) ?_
      rintro _ _ ⟨rfl, rfl⟩
      show rX E _ 87 [some (.inr (some E.1.length)), some (.inl f), some (.inl g), some (.inl y), some (.inl uf), some (.inl ut), some (.inl pp), some (.inl 12), some (.inl (pp + 1)), some (.inl (pp + 1)), o10] [] _ _
      refine rx (xs_iload dm_Re_retyped_87 rfl) ?_
      refine rx (xs_istore dm_Re_retyped_89 (by decide)) ?_
      show rX E _ 91 [some (.inr (some E.1.length)), some (.inl f), some (.inl g), some (.inl y), some (.inl uf), some (.inl ut), some (.inl pp), some (.inl 12), some (.inl (pp + 1)), some (.inl (pp + 1)), some (.inl (pp + 1))] [] _ _
      refine rx (xs_iload dm_Re_retyped_91 rfl) ?_
      refine rx (xs_iload dm_Re_retyped_93 rfl) ?_
      refine rx (xs_icmp_ge_t (tgt := 137) dm_Re_retyped_95 rfl (by unfold ir; omega) (by unfold ir; omega) (by omega)) ?_
      refine rx (xs_iload dm_Re_retyped_137 rfl) ?_
      refine rx (xs_istore dm_Re_retyped_139 (by decide)) ?_
      show rX E _ 141 [some (.inr (some E.1.length)), some (.inl f), some (.inl g), some (.inl y), some (.inl uf), some (.inl ut), some (.inl (pp + 1)), some (.inl 12), some (.inl (pp + 1)), some (.inl (pp + 1)), some (.inl (pp + 1))] [] _ _
      refine rx (xs_goto (tgt := 3) dm_Re_retyped_141 rfl) ?_
      refine rxq (ih (f1 ++ (x1 ++ r)) (n + 2) (k + 1) _ _ _ _ _ _ (by simp; omega) (by omega) (emL_sgo (by omega) (sg_tl hs) (by simp; omega)) (emL_sgo (by omega) hT (by omega)) ⟨_, _, _, _, hf1, rfl, _, _, _, _, hx1, rfl, hr⟩ (by simp; omega) (fun z hz => hi z (by simp at hz; simp [hz])) (by omega) (by omega) (by simp; omega)) ?_
      rintro _ _ ⟨rfl, hq⟩
      refine ⟨rfl, fun p => ?_⟩
      rw [hq 12]
      simp only [List.cons_append, List.append_assoc]
      rw [rtC_up (by decide)]
      simp [emL]
    · subst e
      simp only [List.cons_append, List.append_assoc, List.nil_append, List.length_append, List.length_cons, List.length_nil] at hs hN hg h3 hi
      refine rx (xs_iload dm_Re_retyped_3 rfl) ?_
      refine rx (xs_iload_n dm_Re_retyped_5 rfl) ?_
      refine rx (xs_icmp_ge_f (tgt := 144) dm_Re_retyped_6 rfl (by unfold ir; omega) (by unfold ir; omega) (by omega)) ?_
      refine rx (xs_aload_n dm_Re_retyped_9 rfl) ?_
      refine rx (rg (v := .inr (some (rA E 0))) dm_Re_retyped_10 lf_Re_7 rfl) ?_
      refine rx (xs_iload dm_Re_retyped_13 rfl) ?_
      refine rx (rlv 0 13 (by decide) dm_Re_retyped_15 (by omega) (by show _ < ((10000 : Nat) : Int); omega) (by rw [hpp, Int.toNat_natCast]; exact sg_hd hs)) ?_
      refine rx (xs_istore dm_Re_retyped_16 (by decide)) ?_
      show rX E _ 18 [some (.inr (some E.1.length)), some (.inl f), some (.inl g), some (.inl y), some (.inl uf), some (.inl ut), some (.inl pp), some (.inl 13), o8, o9, o10] [] _ _
      refine rx (xs_iload dm_Re_retyped_18 rfl) ?_
      refine rx (xs_bipush dm_Re_retyped_20 (by decide)) ?_
      refine rx (xs_icmp_eq_f (tgt := 32) dm_Re_retyped_22 rfl (by unfold ir; omega) (by unfold ir; omega) (by decide)) ?_
      refine rx (xs_iload dm_Re_retyped_25 rfl) ?_
      refine rx (xs_bipush dm_Re_retyped_27 (by decide)) ?_
      refine rx (xs_icmp_ne_t (tgt := 39) dm_Re_retyped_29 rfl (by unfold ir; omega) (by unfold ir; omega) (by decide)) ?_
      refine rx (xs_iload dm_Re_retyped_39 rfl) ?_
      refine rx (xs_iconst dm_Re_retyped_41) ?_
      refine rx (xs_iadd dm_Re_retyped_42) ?_
      refine rx (xs_istore dm_Re_retyped_43 (by decide)) ?_
      show rX E _ 45 [some (.inr (some E.1.length)), some (.inl f), some (.inl g), some (.inl y), some (.inl uf), some (.inl ut), some (.inl pp), some (.inl 13), some (.inl (pp + 1)), o9, o10] [] _ _
      refine rx (xs_iload dm_Re_retyped_45 rfl) ?_
      refine rx (xs_bipush dm_Re_retyped_47 (by decide)) ?_
      refine rx (xs_icmp_eq_f (tgt := 66) dm_Re_retyped_49 rfl (by unfold ir; omega) (by unfold ir; omega) (by decide)) ?_
      refine rx (xs_iload dm_Re_retyped_52 rfl) ?_
      refine rx (xs_bipush dm_Re_retyped_54 (by decide)) ?_
      refine rx (xs_icmp_eq_f (tgt := 66) dm_Re_retyped_56 rfl (by unfold ir; omega) (by unfold ir; omega) (by decide)) ?_
      refine rx (xs_iload dm_Re_retyped_59 rfl) ?_
      refine rx (xs_bipush dm_Re_retyped_61 (by decide)) ?_
      refine rx (xs_icmp_ne_f (tgt := 75) dm_Re_retyped_63 rfl (by unfold ir; omega) (by unfold ir; omega) (by decide)) ?_
      refine rx (xs_aload_n dm_Re_retyped_66 rfl) ?_
      refine rx (xs_iload dm_Re_retyped_67 rfl) ?_
      have hs2 := sg_tl hs
      rw [sg_app] at hs2
      have hs0 : sg q k [13] := sg_cons (sg_hd hs) sg_nil
      have o1 := emL_out q [13]
      simp only [List.length_cons, List.length_nil] at o1
      refine rcV (as := [.inl (pp + 1)]) (rest := []) dm_Re_retyped_69 lc_Re_skipType lm_Re_36 li_Re_skipType (nr rfl rfl) rfl rfl rfl (nl rfl) (re_skipType (p := k + 1) hs2.1 hs1 (by omega) (by omega)) ?_
      rintro _ q1 ⟨rfl, hq1⟩
      have hq1 := hq1.symm
      subst hq1
      show rX E _ 72 [some (.inr (some E.1.length)), some (.inl f), some (.inl g), some (.inl y), some (.inl uf), some (.inl ut), some (.inl pp), some (.inl 13), some (.inl (pp + 1)), o9, o10] [.inl (((k + 1 : Nat) : Int) + (s.length : Int))] _ _
      refine rx (xs_goto (tgt := 77) dm_Re_retyped_72 rfl) ?_
      refine rx (xs_istore dm_Re_retyped_77 (by decide)) ?_
      show rX E _ 79 [some (.inr (some E.1.length)), some (.inl f), some (.inl g), some (.inl y), some (.inl uf), some (.inl ut), some (.inl pp), some (.inl 13), some (.inl (pp + 1)), some (.inl (((k + 1 : Nat) : Int) + (s.length : Int))), o10] [] _ _
      refine rx (xs_aload_n dm_Re_retyped_79 rfl) ?_
      refine rx (xs_iload dm_Re_retyped_80 rfl) ?_
      refine rx (xs_iload dm_Re_retyped_82 rfl) ?_
      refine rcV (as := [.inl pp, .inl (pp + 1)]) (rest := []) dm_Re_retyped_84 lc_Re_emitRow lm_Re_43 li_Re_emitRow (nr rfl rfl) rfl rfl rfl (nl rfl) (re_emitRow hs0 hpp (by simp; omega) (by omega) (by simp; omega)) ?_
      rintro _ _ ⟨rfl, rfl⟩
      show rX E _ 87 [some (.inr (some E.1.length)), some (.inl f), some (.inl g), some (.inl y), some (.inl uf), some (.inl ut), some (.inl pp), some (.inl 13), some (.inl (pp + 1)), some (.inl (((k + 1 : Nat) : Int) + (s.length : Int))), o10] [] _ _
      refine rx (xs_iload dm_Re_retyped_87 rfl) ?_
      refine rx (xs_istore dm_Re_retyped_89 (by decide)) ?_
      show rX E _ 91 [some (.inr (some E.1.length)), some (.inl f), some (.inl g), some (.inl y), some (.inl uf), some (.inl ut), some (.inl pp), some (.inl 13), some (.inl (pp + 1)), some (.inl (((k + 1 : Nat) : Int) + (s.length : Int))), some (.inl (pp + 1))] [] _ _
      refine re_retyped_i E hy hK huf hut hTl s (k + 1) (emL q [13]) _ (by omega) (emL_sgo (by omega) hs2.1 (by omega)) (emL_sgo (by omega) hT (by omega)) (by omega) (isTy_ir hs1) (by omega) (by omega) (by omega) (fun kk' => ?_)
      have o2 := emL_out (emL q [13]) (tsb K T s)
      have hts : ((tsb K T s).length : Int) ≤ 40 * (s.length : Int) := tsb_len hTl s
      refine rx (xs_iload dm_Re_retyped_137 rfl) ?_
      refine rx (xs_istore dm_Re_retyped_139 (by decide)) ?_
      show rX E _ 141 [some (.inr (some E.1.length)), some (.inl f), some (.inl g), some (.inl y), some (.inl uf), some (.inl ut), some (.inl (((k + 1 : Nat) : Int) + (s.length : Int))), some (.inl 13), some (.inl (pp + 1)), some (.inl (((k + 1 : Nat) : Int) + (s.length : Int))), some (.inl kk')] [] _ _
      refine rx (xs_goto (tgt := 3) dm_Re_retyped_141 rfl) ?_
      refine rxq (ih (u ++ r) (n + 1) (k + 1 + s.length) _ _ _ _ _ _ (by simp; omega) (by omega) (emL_sgo (by omega) (emL_sgo (by omega) hs2.2 (by simp; omega)) (by simp; omega)) (emL_sgo (by omega) (emL_sgo (by omega) hT (by omega)) (by omega)) ⟨_, _, _, _, hu, rfl, hr⟩ (by simp; omega) (fun z hz => hi z (by simp at hz; simp [hz])) (by omega) (by omega) (by simp; omega)) ?_
      rintro _ _ ⟨rfl, hq⟩
      refine ⟨rfl, fun p => ?_⟩
      rw [hq 0]
      simp only [List.cons_append, List.append_assoc]
      rw [rtC_up (by decide), rtC_low (isTy_low hs1) (isTm_hdT hu r) _ (by decide) (by decide) 0]
      simp [emL]
set_option maxHeartbeats 4000000 in
set_option maxRecDepth 100000 in
theorem re_retyped {q : rS} {f g y uf ut : Int} {pt pu : Nat} {t a T : List Int} {K : Int} (hs : sg q pt t) (hT : sg q pu T) (ht : isTm [] t a) (hy : y = 2 + K) (hK : 0 ≤ K ∧ K ≤ 3) (hf : f = pt) (hg : g = (pt : Int) + (t.length : Int)) (huf : uf = pu) (hut : ut = (pu : Int) + (T.length : Int)) (hTl : T.length ≤ 40) (htl : t.length ≤ 10000) (h1 : g ≤ q 6 5) (h2 : ut ≤ q 6 5) (h3 : q 6 5 + 40 * (t.length : Int) ≤ 10000) : rM mm_Re_retyped [.inl f, .inl g, .inl y, .inl uf, .inl ut] q (fun r q' => r = none ∧ ∀ p, q' = emL q (rtC K T t p)) := by
  refine rm rfl (nl rfl) (fun E => ?_)
  show rX E _ 0 [some (.inr (some E.1.length)), some (.inl f), some (.inl g), some (.inl y), some (.inl uf), some (.inl ut), none, none, none, none, none] [] _ _
  refine rx (xs_iload_n dm_Re_retyped_0 rfl) ?_
  refine rx (xs_istore dm_Re_retyped_1 (by decide)) ?_
  show rX E _ 3 [some (.inr (some E.1.length)), some (.inl f), some (.inl g), some (.inl y), some (.inl uf), some (.inl ut), some (.inl f), none, none, none, none] [] _ _
  exact re_retyped_l E hy hK huf hut hTl (t.length + 1) t 1 pt q _ _ _ _ _ (by omega) hf hs hT ⟨_, _, _, [], ht, by simp, rfl⟩ hg (isTm_ir ht (by simp; omega)) h1 h2 h3
