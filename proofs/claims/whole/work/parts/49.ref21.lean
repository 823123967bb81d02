/-! absThm, inst, instType -/
theorem rOb_B {q q' : rS} {l : List Int} {hs hs' : List (List Int)} (h : rOb q 28 (2, l, hs)) (hw : frB q q') (hy : hyR q' 28 hs') : rOb q' 28 (2, l, hs') := by
  obtain ⟨a1, ⟨b1, b2, b3⟩, -⟩ := h
  have b4 : l.length ≤ 40 := b3
  refine ⟨by rw [hw _ _ (by omega) (by omega) (by omega) (by omega)]; exact a1, ⟨by rw [hw _ _ (by omega) (by omega) (by omega) (by omega)]; exact b1, sg_mono b2 (fun k k1 k2 => ?_), b3⟩, hy⟩
  have k3 : k < 160 * 28 + 40 * 0 + l.length := k2
  exact hw _ _ (by omega) (by omega) (by omega) (by omega)
theorem rpl_len {v u : List Int} (hu : u.length ≤ 40) : ∀ (l : List Int) (k : Nat), (rplC v u l k).length ≤ 40 * l.length := by
  intro l
  induction l with
  | nil => intro k; simp [rplC]
  | cons s l ih =>
    intro k
    unfold rplC
    split
    · have := ih (v.length - 1); simp; omega
    · split
      · have := ih 0; simp; omega
      · have := ih (k - 1); simp; omega
theorem rpl_mem {v u : List Int} : ∀ (l : List Int) (k : Nat), ∀ z ∈ rplC v u l k, z ∈ l ∨ z ∈ u := by
  intro l
  induction l with
  | nil => intro k z hz; simp [rplC] at hz
  | cons s l ih =>
    intro k z hz
    unfold rplC at hz
    split at hz
    · rcases List.mem_append.mp hz with h | h
      · exact Or.inr h
      · rcases ih _ z h with h | h
        · exact Or.inl (List.mem_cons_of_mem _ h)
        · exact Or.inr h
    · split at hz
      · rcases List.mem_cons.mp hz with h | h
        · exact Or.inl (by rw [h]; exact List.mem_cons_self)
        · rcases ih _ z h with h | h
          · exact Or.inl (List.mem_cons_of_mem _ h)
          · exact Or.inr h
      · rcases ih _ z hz with h | h
        · exact Or.inl (List.mem_cons_of_mem _ h)
        · exact Or.inr h
theorem rt_len {K : Int} {T : List Int} (hu : T.length ≤ 40) : ∀ (l : List Int) (k : Int), (rtC K T l k).length ≤ 40 * l.length := by
  intro l
  induction l with
  | nil => intro k; simp [rtC]
  | cons s l ih =>
    intro k
    have := ih s
    unfold rtC
    split
    · simp; omega
    · simp; omega
theorem rt_mem {K : Int} {T : List Int} : ∀ (l : List Int) (k : Int), ∀ z ∈ rtC K T l k, z ∈ l ∨ z ∈ T := by
  intro l
  induction l with
  | nil => intro k z hz; simp [rtC] at hz
  | cons s l ih =>
    intro k z hz
    unfold rtC at hz
    split at hz
    · rcases List.mem_append.mp hz with h | h
      · exact Or.inr h
      · rcases ih _ z h with h | h
        · exact Or.inl (List.mem_cons_of_mem _ h)
        · exact Or.inr h
    · rcases List.mem_cons.mp hz with h | h
      · exact Or.inl (by rw [h]; exact List.mem_cons_self)
      · rcases ih _ z h with h | h
        · exact Or.inl (List.mem_cons_of_mem _ h)
        · exact Or.inr h
/-- the hypotheses, each changed, come in one after another -/
def hfo (f : List Int → List Int) (x : List (List Int) × Bool) (hs : List (List Int)) : List (List Int) × Bool := hs.foldl (fun x h => hin (f h) x) x
noncomputable def abE (v : List Int) (p : List Int × List Int × List Int) : List Int := eqn (0 :: (v.drop 2 ++ p.1)) (13 :: (v.drop 2 ++ absC v p.2.1 ([], 1) 0)) (13 :: (v.drop 2 ++ absC v p.2.2 ([], 1) 0))
noncomputable def st_absT (M : mS) : Int × mS := ifc (vb M 1 ∧ kd M 0 = 2) (ifc (isE (mn M 0)) (ifc (∃ h ∈ hp M 0, frC (mn M 1) h) (3, M) (fi M 2 (2, abE (mn M 1) (eqx (mn M 0)), (brg [] ([], decide (40 < (abE (mn M 1) (eqx (mn M 0))).length)) (hp M 0)).1) (brg [] ([], decide (40 < (abE (mn M 1) (eqx (mn M 0))).length)) (hp M 0)).2)) (2, M)) (1, M)
noncomputable def st_inst (M : mS) : Int × mS := ifc (vb M 2 ∧ kd M 1 = 1 ∧ kd M 0 = 2) (ifc ((mn M 2).drop 2 = tyO (mn M 1)) (fi M 3 (2, rplC (mn M 2) (mn M 1) (mn M 0) 0, (hfo (fun h => rplC (mn M 2) (mn M 1) h 0) ([], decide (40 < (rplC (mn M 2) (mn M 1) (mn M 0) 0).length)) (hp M 0)).1) (hfo (fun h => rplC (mn M 2) (mn M 1) h 0) ([], decide (40 < (rplC (mn M 2) (mn M 1) (mn M 0) 0).length)) (hp M 0)).2) (2, M)) (1, M)
noncomputable def st_instT (M : mS) (c : Int) : Int × mS := if ¬ (kd M 1 = 0 ∧ kd M 0 = 2) then (1, M) else if c < 0 ∨ 3 < c then (2, M) else fi M 2 (2, rtC c (mn M 1) (mn M 0) 0, (hfo (fun h => rtC c (mn M 1) h 0) ([], decide (40 < (rtC c (mn M 1) (mn M 0) 0).length)) (hp M 0)).1) (hfo (fun h => rtC c (mn M 1) h 0) ([], decide (40 < (rtC c (mn M 1) (mn M 0) 0).length)) (hp M 0)).2
set_option maxHeartbeats 4000000 in
set_option maxRecDepth 100000 in
theorem re_absThm_l {q : rS} {vf vt oo : Int} {pv o : Nat} {hs : List (List Int)} {n : Int} {c : List Int} {o3 o6 o7 : Option xV} {Q : Option xV → rS → Prop} (E : rE) (hv : sg q pv (vw n c)) (hc : isTy c) (hn : 0 ≤ n ∧ n ≤ 7) (hvf : vf = pv) (hvt : vt = (pv : Int) + 2 + (c.length : Int)) (h2 : pv + 2 + c.length ≤ 10000) (hoo : oo = o) (ho : o < 28) (hy : hyR q o hs) (hh : ∀ h ∈ hs, isTm [] h [1] ∧ h.length ≤ 40) (hyes : (∃ h ∈ hs, frC (vw n c) h) → Q (some (.inl 3)) q) (hno : ¬ (∃ h ∈ hs, frC (vw n c) h) → ∀ o5, rX E mm_Re_absThm 114 [some (.inr (some E.1.length)), some (.inl vf), some (.inl vt), o3, some (.inl oo), o5, o6, o7] [] q Q) : ∀ (N j : Nat) (ii : Int), hs.length - j < N → j ≤ hs.length → ii = (j : Int) + 1 → (∀ (i : Nat) (h : List Int), i < j → hs[i]? = some h → ¬ frC (vw n c) h) → rX E mm_Re_absThm 58 [some (.inr (some E.1.length)), some (.inl vf), some (.inl vt), o3, some (.inl oo), some (.inl ii), o6, o7] [] q Q := by
  intro N
  induction N with
  | zero => intro j ii hN; omega
  | succ N ih =>
    intro j ii hN hj hii hpre
    obtain ⟨y1, y2, y3⟩ := hy
    by_cases hjn : j = hs.length
    · refine rx (xs_iload dm_Re_absThm_58 rfl) ?_
      refine rx (xs_aload_n dm_Re_absThm_60 rfl) ?_
      refine rx (rg (v := .inr (some (rA E 3))) dm_Re_absThm_61 lf_Re_19 rfl) ?_
      refine rx (xs_iload dm_Re_absThm_64 rfl) ?_
      refine rx (rlv 3 (hs.length : Int) (by decide) dm_Re_absThm_66 (by omega) (by show _ < ((30 : Nat) : Int); omega) (by rw [show oo.toNat = o by omega]; exact y1)) ?_
      refine rx (xs_icmp_gt_t (tgt := 114) dm_Re_absThm_67 rfl (by unfold ir; omega) (by unfold ir; omega) (by omega)) ?_
      refine hno ?_ _
      rintro ⟨h, hm, hf⟩
      obtain ⟨i, hi⟩ := List.getElem?_of_mem hm
      exact hpre i h (by have := (List.getElem?_eq_some_iff.mp hi).1; omega) hi hf
    · obtain ⟨h, hh9⟩ : ∃ h, hs[j]? = some h := ⟨_, List.getElem?_eq_getElem (by omega)⟩
      obtain ⟨w1, w2, w3⟩ := y3 j h hh9
      have hm := List.mem_of_getElem? hh9
      have th := (hh h hm).1
      refine rx (xs_iload dm_Re_absThm_58 rfl) ?_
      refine rx (xs_aload_n dm_Re_absThm_60 rfl) ?_
      refine rx (rg (v := .inr (some (rA E 3))) dm_Re_absThm_61 lf_Re_19 rfl) ?_
      refine rx (xs_iload dm_Re_absThm_64 rfl) ?_
      refine rx (rlv 3 (hs.length : Int) (by decide) dm_Re_absThm_66 (by omega) (by show _ < ((30 : Nat) : Int); omega) (by rw [show oo.toNat = o by omega]; exact y1)) ?_
      refine rx (xs_icmp_gt_f (tgt := 114) dm_Re_absThm_67 rfl (by unfold ir; omega) (by unfold ir; omega) (by omega)) ?_
      refine rx (xs_aload_n dm_Re_absThm_70 rfl) ?_
      refine rx (xs_iload_n dm_Re_absThm_71 rfl) ?_
      refine rx (xs_iload_n dm_Re_absThm_72 rfl) ?_
      refine rx (xs_iload dm_Re_absThm_73 rfl) ?_
      refine rx (xs_iload dm_Re_absThm_75 rfl) ?_
      refine rcS (as := [.inl oo, .inl ii]) (rest := [.inl vt, .inl vf, .inr (some E.1.length)]) dm_Re_absThm_77 lc_Re_base lm_Re_54 li_Re_base (nr rfl rfl) rfl rfl (nl rfl) (re_base _ _) ?_
      show rX E _ 80 [some (.inr (some E.1.length)), some (.inl vf), some (.inl vt), o3, some (.inl oo), some (.inl ii), o6, o7] [.inl (160 * oo + 40 * ii), .inl vt, .inl vf, .inr (some E.1.length)] _ _
      refine rx (xs_iload dm_Re_absThm_80 rfl) ?_
      refine rx (xs_iload dm_Re_absThm_82 rfl) ?_
      refine rcS (as := [.inl oo, .inl ii]) (rest := [.inl (160 * oo + 40 * ii), .inl vt, .inl vf, .inr (some E.1.length)]) dm_Re_absThm_84 lc_Re_base lm_Re_54 li_Re_base (nr rfl rfl) rfl rfl (nl rfl) (re_base _ _) ?_
      show rX E _ 87 [some (.inr (some E.1.length)), some (.inl vf), some (.inl vt), o3, some (.inl oo), some (.inl ii), o6, o7] [.inl (160 * oo + 40 * ii), .inl (160 * oo + 40 * ii), .inl vt, .inl vf, .inr (some E.1.length)] _ _
      refine rx (xs_aload_n dm_Re_absThm_87 rfl) ?_
      refine rx (rg (v := .inr (some (rA E 1))) dm_Re_absThm_88 lf_Re_13 rfl) ?_
      refine rx (xs_iconst dm_Re_absThm_91) ?_
      refine rx (xs_iload dm_Re_absThm_92 rfl) ?_
      refine rx (xs_imul dm_Re_absThm_94) ?_
      refine rx (xs_iload dm_Re_absThm_95 rfl) ?_
      refine rx (xs_iadd dm_Re_absThm_97) ?_
      refine rx (rlv 1 (h.length : Int) (by decide) dm_Re_absThm_98 (by omega) (by show _ < ((120 : Nat) : Int); omega) (by rw [show (4 * oo + ii).toNat = 4 * o + (j + 1) by omega]; exact w1)) ?_
      refine rx (xs_iadd dm_Re_absThm_99) ?_
      by_cases hfr : frC (vw n c) h
      · refine rcV (as := [.inl vf, .inl vt, .inl (160 * oo + 40 * ii), .inl ((160 * oo + 40 * ii) + (h.length : Int))]) (rest := []) dm_Re_absThm_100 lc_Re_free lm_Re_172 li_Re_free (nr rfl rfl) rfl rfl rfl (nl rfl) (re_free (R := 1) (pt := 160 * o + 40 * (j + 1)) w2 hv th hc hn (by omega) (by omega) hvf hvt (by omega) h2 (fun _ => rfl) (fun h => absurd hfr h)) ?_
        rintro _ q1 ⟨rfl, hq1⟩
        have hq1 := hq1.symm
        subst hq1
        show rX E _ 103 [some (.inr (some E.1.length)), some (.inl vf), some (.inl vt), o3, some (.inl oo), some (.inl ii), o6, o7] [.inl 1] _ _
        refine rx (xs_if_eq_f (tgt := 108) dm_Re_absThm_103 rfl (by unfold ir; omega) (by decide)) ?_
        refine rx (xs_iconst dm_Re_absThm_106) ?_
        exact rri dm_Re_absThm_107 rfl (hyes ⟨h, hm, hfr⟩)
      · refine rcV (as := [.inl vf, .inl vt, .inl (160 * oo + 40 * ii), .inl ((160 * oo + 40 * ii) + (h.length : Int))]) (rest := []) dm_Re_absThm_100 lc_Re_free lm_Re_172 li_Re_free (nr rfl rfl) rfl rfl rfl (nl rfl) (re_free (R := 0) (pt := 160 * o + 40 * (j + 1)) w2 hv th hc hn (by omega) (by omega) hvf hvt (by omega) h2 (fun h => absurd h hfr) (fun _ => rfl)) ?_
        rintro _ q1 ⟨rfl, hq1⟩
        have hq1 := hq1.symm
        subst hq1
        show rX E _ 103 [some (.inr (some E.1.length)), some (.inl vf), some (.inl vt), o3, some (.inl oo), some (.inl ii), o6, o7] [.inl 0] _ _
        refine rx (xs_if_eq_t (tgt := 108) dm_Re_absThm_103 rfl (by unfold ir; omega) (by decide)) ?_
        refine rx (xs_iinc dm_Re_absThm_108 rfl (by decide)) ?_
        show rX E _ 111 [some (.inr (some E.1.length)), some (.inl vf), some (.inl vt), o3, some (.inl oo), some (.inl (ii + 1)), o6, o7] [] _ _
        refine rx (xs_goto (tgt := 58) dm_Re_absThm_111 rfl) ?_
        refine ih (j + 1) _ (by omega) (by omega) (by omega) (fun i h' hi hi2 => ?_)
        by_cases he : i = j
        · subst he
          rw [hh9] at hi2
          have e9 : h = h' := by simpa using hi2
          rw [← e9]
          exact hfr
        · exact hpre i h' (by omega) hi2
set_option maxHeartbeats 4000000 in
set_option maxRecDepth 100000 in
theorem re_absThm {q : rS} {M : mS} (hg : gM M) (hR : Rl q M) : rM mm_Re_absThm [] q (fun r q' => r = some (.inl (st_absT M).1) ∧ Rl q' (st_absT M).2) := by
  refine rm rfl (nl rfl) (fun E => ?_)
  have g6 := hg.2.2.2.2.2.1
  have g7 := hg.2.2.2.2.2.2.1
  have g8 := hg.2.2.2.2.2.2.2.1
  have g9 := hg.2.2.2.2.2.2.2.2.1
  have g10 := hg.2.2.2.2.2.2.2.2.2
  have r1 := hR.1
  have r4 : q 6 1 = (M.2.2.1.length : Int) := hR.2.2.2.1
  have r6 : q 6 2 = (M.2.2.2.1.length : Int) := hR.2.2.2.2.2.1
  have r8 : q 6 3 = (M.2.2.2.2.1.length : Int) := hR.2.2.2.2.2.2.2.1
  have r10 : q 6 4 = (M.2.2.2.2.2 : Int) := hR.2.2.2.2.2.2.2.2.2.1
  have hlk := hR.2.2.2.2.2.2.2.2.2.2
  have i0 := (kd_ir hg 0).1
  by_cases hv : vb M 1
  · show rX E _ 0 [some (.inr (some E.1.length)), none, none, none, none, none, none, none] [] _ _
    refine rx (xs_aload_n dm_Re_absThm_0 rfl) ?_
    refine rx (xs_iconst dm_Re_absThm_1) ?_
    refine rcV (as := [.inl 1]) (rest := []) dm_Re_absThm_2 lc_Re_variable lm_Re_126 li_Re_variable (nr rfl rfl) rfl rfl rfl (nl rfl) (re_variable' (i := 1) (R := 1) hg hR rfl (by decide) (fun _ => rfl) (fun h => absurd hv h)) ?_
    rintro _ q1 ⟨rfl, hq1⟩
    have hq1 := hq1.symm
    subst hq1
    show rX E _ 5 [some (.inr (some E.1.length)), none, none, none, none, none, none, none] [.inl 1] _ _
    refine rx (xs_if_eq_f (tgt := 17) dm_Re_absThm_5 rfl (by unfold ir; omega) (by decide)) ?_
    refine rx (xs_aload_n dm_Re_absThm_8 rfl) ?_
    refine rx (xs_iconst dm_Re_absThm_9) ?_
    refine rcV (as := [.inl 0]) (rest := []) dm_Re_absThm_10 lc_Re_top lm_Re_85 li_Re_top (nr rfl rfl) rfl rfl rfl (nl rfl) (re_top' (i := 0) hg hR rfl (by decide)) ?_
    rintro _ q1 ⟨rfl, hq1⟩
    have hq1 := hq1.symm
    subst hq1
    show rX E _ 13 [some (.inr (some E.1.length)), none, none, none, none, none, none, none] [.inl (kd M 0)] _ _
    refine rx (xs_iconst dm_Re_absThm_13) ?_
    refine xx_icmp_eq (tgt := 19) dm_Re_absThm_14 rfl i0 (by unfold ir; omega) (fun hc => ?_) (fun hc => ?_)
    · change rX E _ 19 _ _ _ _
      have hk0 := hc
      have hk1 := hv.1
      obtain ⟨x0, hx0, ka0, kb0, kc0⟩ := kd_some (M := M) (i := 0) (by rw [hk0]; decide)
      obtain ⟨wa0, wb0, wc0⟩ := Rl_row hR hx0
      have hlt0 := (List.getElem?_eq_some_iff.mp hx0).1
      have gx0 := gM_top hg hx0
      obtain ⟨x1, hx1, ka1, kb1, kc1⟩ := kd_some (M := M) (i := 1) (by rw [hk1]; decide)
      obtain ⟨wa1, wb1, wc1⟩ := Rl_row hR hx1
      have hlt1 := (List.getElem?_eq_some_iff.mp hx1).1
      have gx1 := gM_top hg hx1
      obtain ⟨ht0, hl0, hn0, hs0, hh0⟩ := gO_2 gx0 (ka0.symm.trans hk0)
      obtain ⟨n, c, hvw, tc, hn⟩ := vb_of hg hx1 hv
      have hvl : x1.2.1.length = 2 + c.length := by rw [hvw]; simp [vw]; omega
      have sv : sg q (160 * (M.1.length - 1 - 1)) (vw n c) := by rw [← hvw]; exact wb1
      have hst0 : st_absT M = ifc (isE x0.2.1) (ifc (∃ h ∈ x0.2.2, frC x1.2.1 h) (3, M) (fi M 2 (2, abE x1.2.1 (eqx x0.2.1), (brg [] ([], decide (40 < (abE x1.2.1 (eqx x0.2.1)).length)) x0.2.2).1) (brg [] ([], decide (40 < (abE x1.2.1 (eqx x0.2.1)).length)) x0.2.2).2)) (2, M) := by rw [st_absT, ifc_t ⟨hv, hk0⟩, kb0, kb1, kc0]
      refine rx (xs_aload_n dm_Re_absThm_19 rfl) ?_
      refine rx (xs_iconst dm_Re_absThm_20) ?_
      refine rcV (as := [.inl 1]) (rest := []) dm_Re_absThm_21 lc_Re_rowOf lm_Re_94 li_Re_rowOf (nr rfl rfl) rfl rfl rfl (nl rfl) (re_rowOf' hR rfl hx1) ?_
      rintro _ q1 ⟨rfl, hq1⟩
      have hq1 := hq1.symm
      subst hq1
      show rX E _ 24 [some (.inr (some E.1.length)), none, none, none, none, none, none, none] [.inl ((160 * (M.1.length - 1 - 1) : Nat) : Int)] _ _
      refine rx (xs_istore_n dm_Re_absThm_24 (by decide)) ?_
      show rX E _ 25 [some (.inr (some E.1.length)), some (.inl ((160 * (M.1.length - 1 - 1) : Nat) : Int)), none, none, none, none, none, none] [] _ _
      refine rx (xs_aload_n dm_Re_absThm_25 rfl) ?_
      refine rx (xs_iconst dm_Re_absThm_26) ?_
      refine rcV (as := [.inl 1]) (rest := []) dm_Re_absThm_27 lc_Re_rowEnd lm_Re_97 li_Re_rowEnd (nr rfl rfl) rfl rfl rfl (nl rfl) (re_rowEnd' hg hR rfl hx1) ?_
      rintro _ q1 ⟨rfl, hq1⟩
      have hq1 := hq1.symm
      subst hq1
      show rX E _ 30 [some (.inr (some E.1.length)), some (.inl ((160 * (M.1.length - 1 - 1) : Nat) : Int)), none, none, none, none, none, none] [.inl (((160 * (M.1.length - 1 - 1) : Nat) : Int) + (x1.2.1.length : Int))] _ _
      refine rx (xs_istore_n dm_Re_absThm_30 (by decide)) ?_
      show rX E _ 31 [some (.inr (some E.1.length)), some (.inl ((160 * (M.1.length - 1 - 1) : Nat) : Int)), some (.inl (((160 * (M.1.length - 1 - 1) : Nat) : Int) + (x1.2.1.length : Int))), none, none, none, none, none] [] _ _
      refine rx (xs_aload_n dm_Re_absThm_31 rfl) ?_
      refine rx (xs_iconst dm_Re_absThm_32) ?_
      refine rcV (as := [.inl 0]) (rest := []) dm_Re_absThm_33 lc_Re_rowOf lm_Re_94 li_Re_rowOf (nr rfl rfl) rfl rfl rfl (nl rfl) (re_rowOf' hR rfl hx0) ?_
      rintro _ q1 ⟨rfl, hq1⟩
      have hq1 := hq1.symm
      subst hq1
      show rX E _ 36 [some (.inr (some E.1.length)), some (.inl ((160 * (M.1.length - 1 - 1) : Nat) : Int)), some (.inl (((160 * (M.1.length - 1 - 1) : Nat) : Int) + (x1.2.1.length : Int))), none, none, none, none, none] [.inl ((160 * (M.1.length - 1 - 0) : Nat) : Int)] _ _
      refine rx (xs_istore_n dm_Re_absThm_36 (by decide)) ?_
      show rX E _ 37 [some (.inr (some E.1.length)), some (.inl ((160 * (M.1.length - 1 - 1) : Nat) : Int)), some (.inl (((160 * (M.1.length - 1 - 1) : Nat) : Int) + (x1.2.1.length : Int))), some (.inl ((160 * (M.1.length - 1 - 0) : Nat) : Int)), none, none, none, none] [] _ _
      refine rx (xs_aload_n dm_Re_absThm_37 rfl) ?_
      refine rx (xs_iload_n dm_Re_absThm_38 rfl) ?_
      by_cases he0 : isE x0.2.1
      · obtain ⟨-, a0, l0, r0, hq0⟩ := eqP_of ht0 he0
        have hqx0 := eqx_of hq0
        obtain ⟨eq0, ta0, tl0, tr0⟩ := hq0
        have sE0 : sg q (160 * (M.1.length - 1 - 0)) ([12, 12, 11, 0] ++ (a0 ++ (l0 ++ r0))) := by rw [show [12, 12, 11, 0] ++ (a0 ++ (l0 ++ r0)) = x0.2.1 by rw [eq0]; simp [eqn]]; exact wb0
        have u0 := (sg_app.mp sE0).2
        have ua0 := (sg_app.mp u0).1
        have v0 := (sg_app.mp u0).2
        have ul0 := (sg_app.mp v0).1
        have ur0 := (sg_app.mp v0).2
        simp only [List.length_cons, List.length_nil] at u0 ua0 v0 ul0 ur0
        have len0 : x0.2.1.length = 4 + a0.length + l0.length + r0.length := by rw [eq0, eqn_len]
        refine rcV (as := [.inl ((160 * (M.1.length - 1 - 0) : Nat) : Int)]) (rest := []) dm_Re_absThm_39 lc_Re_isEquation lm_Re_162 li_Re_isEquation (nr rfl rfl) rfl rfl rfl (nl rfl) (re_isEq1 (p := 160 * (M.1.length - 1 - 0)) (r := a0 ++ (l0 ++ r0)) sE0 rfl (by omega)) ?_
        rintro _ q1 ⟨rfl, hq1⟩
        have hq1 := hq1.symm
        subst hq1
        show rX E _ 42 [some (.inr (some E.1.length)), some (.inl ((160 * (M.1.length - 1 - 1) : Nat) : Int)), some (.inl (((160 * (M.1.length - 1 - 1) : Nat) : Int) + (x1.2.1.length : Int))), some (.inl ((160 * (M.1.length - 1 - 0) : Nat) : Int)), none, none, none, none] [.inl 1] _ _
        refine rx (xs_if_ne_t (tgt := 47) dm_Re_absThm_42 rfl (by unfold ir; omega) (by decide)) ?_
        refine rx (xs_aload_n dm_Re_absThm_47 rfl) ?_
        refine rx (rg (v := .inl (q 6 0)) dm_Re_absThm_48 lf_Re_79 rfl) ?_
        refine rx (xs_iconst dm_Re_absThm_51) ?_
        refine rx (xs_isub dm_Re_absThm_52) ?_
        refine rx (xs_istore dm_Re_absThm_53 (by decide)) ?_
        show rX E _ 55 [some (.inr (some E.1.length)), some (.inl ((160 * (M.1.length - 1 - 1) : Nat) : Int)), some (.inl (((160 * (M.1.length - 1 - 1) : Nat) : Int) + (x1.2.1.length : Int))), some (.inl ((160 * (M.1.length - 1 - 0) : Nat) : Int)), some (.inl ((q 6 0) - 1)), none, none, none] [] _ _
        refine rx (xs_iconst dm_Re_absThm_55) ?_
        refine rx (xs_istore dm_Re_absThm_56 (by decide)) ?_
        show rX E _ 58 [some (.inr (some E.1.length)), some (.inl ((160 * (M.1.length - 1 - 1) : Nat) : Int)), some (.inl (((160 * (M.1.length - 1 - 1) : Nat) : Int) + (x1.2.1.length : Int))), some (.inl ((160 * (M.1.length - 1 - 0) : Nat) : Int)), some (.inl ((q 6 0) - 1)), some (.inl 1), none, none] [] _ _
        refine re_absThm_l (pv := 160 * (M.1.length - 1 - 1)) (o := M.1.length - 1 - 0) (hs := x0.2.2) (n := n) (c := c) E sv tc hn rfl (by omega) (by omega) (by omega) (by omega) (hR.2.1 0 x0 hx0).2.2 hh0 (fun hex => ?_) (fun hex o5 => ?_) (x0.2.2.length + 1) 0 _ (by omega) (by omega) (by omega) (fun i h hi => by omega)
        · rw [← hvw] at hex
          rw [hst0, ifc_t he0, ifc_t hex]
          exact ⟨rfl, hR⟩
        · rw [← hvw] at hex
          have hst : st_absT M = fi M 2 (2, abE x1.2.1 (a0, l0, r0), (brg [] ([], decide (40 < (abE x1.2.1 (a0, l0, r0)).length)) x0.2.2).1) (brg [] ([], decide (40 < (abE x1.2.1 (a0, l0, r0)).length)) x0.2.2).2 := by rw [hst0, ifc_t he0, ifc_f hex, hqx0]
          have hdr : x1.2.1.drop 2 = c := by rw [hvw]; rfl
          have habe : abE x1.2.1 (a0, l0, r0) = eqn (0 :: (c ++ a0)) (13 :: (c ++ absC (vw n c) l0 ([], 1) 0)) (13 :: (c ++ absC (vw n c) r0 ([], 1) 0)) := by rw [← hvw, ← hdr]; rfl
          have hel := eqn_len (0 :: (c ++ a0)) (13 :: (c ++ absC (vw n c) l0 ([], 1) 0)) (13 :: (c ++ absC (vw n c) r0 ([], 1) 0))
          simp only [List.length_cons, List.length_append] at hel
          rw [← habe] at hel
          have cl1 := absC_len (vw n c) l0 ([], 1) 0
          have cl2 := absC_len (vw n c) r0 ([], 1) 0
          rw [hst]
          show rX E _ 114 [some (.inr (some E.1.length)), some (.inl ((160 * (M.1.length - 1 - 1) : Nat) : Int)), some (.inl (((160 * (M.1.length - 1 - 1) : Nat) : Int) + (x1.2.1.length : Int))), some (.inl ((160 * (M.1.length - 1 - 0) : Nat) : Int)), some (.inl ((q 6 0) - 1)), o5, none, none] [] _ _
          refine rx (xs_aload_n dm_Re_absThm_114 rfl) ?_
          refine rcV (as := []) (rest := []) dm_Re_absThm_115 lc_Re_begin lm_Re_88 li_Re_begin (nr rfl rfl) rfl rfl rfl (nl rfl) (re_begin) ?_
          rintro _ _ ⟨rfl, rfl⟩
          show rX E _ 118 [some (.inr (some E.1.length)), some (.inl ((160 * (M.1.length - 1 - 1) : Nat) : Int)), some (.inl (((160 * (M.1.length - 1 - 1) : Nat) : Int) + (x1.2.1.length : Int))), some (.inl ((160 * (M.1.length - 1 - 0) : Nat) : Int)), some (.inl ((q 6 0) - 1)), o5, none, none] [] _ _
          refine rx (xs_aload_n dm_Re_absThm_118 rfl) ?_
          refine rx (xs_iconst dm_Re_absThm_119) ?_
          have w5 := bg_5 q
          have fg := frM_bg q
          have lkg := lok_bg hlk
          have k28 := bg_2 q
          have h28 := hy0 (bg_3 q)
          have g28 := bg_6 q
          generalize bg q = qg at w5 fg lkg k28 h28 g28 ⊢
          show rX E _ 120 [some (.inr (some E.1.length)), some (.inl ((160 * (M.1.length - 1 - 1) : Nat) : Int)), some (.inl (((160 * (M.1.length - 1 - 1) : Nat) : Int) + (x1.2.1.length : Int))), some (.inl ((160 * (M.1.length - 1 - 0) : Nat) : Int)), some (.inl ((q 6 0) - 1)), o5, none, none] [.inl 0, .inr (some E.1.length)] _ _
          refine rcV (as := [.inl 0]) (rest := []) dm_Re_absThm_120 lc_Re_emit lm_Re_32 li_Re_emit (nr rfl rfl) rfl rfl rfl (nl rfl) (re_emit (x := 0) (by omega) (by omega)) ?_
          rintro _ _ ⟨rfl, rfl⟩
          show rX E _ 123 [some (.inr (some E.1.length)), some (.inl ((160 * (M.1.length - 1 - 1) : Nat) : Int)), some (.inl (((160 * (M.1.length - 1 - 1) : Nat) : Int) + (x1.2.1.length : Int))), some (.inl ((160 * (M.1.length - 1 - 0) : Nat) : Int)), some (.inl ((q 6 0) - 1)), o5, none, none] [] _ _
          have o1 := em_out qg 0
          have f1 : frM q (em qg 0) := frM_tr fg (frM_emL (l := [0]) (by omega))
          have svc := (sg_app.mp (show sg (em qg 0) (160 * (M.1.length - 1 - 1)) ([10, n] ++ c) from frM_sg f1 (by have := sv; exact this) (by simp; omega))).2
          simp only [List.length_cons, List.length_nil] at svc
          refine rx (xs_aload_n dm_Re_absThm_123 rfl) ?_
          refine rx (xs_iload_n dm_Re_absThm_124 rfl) ?_
          refine rx (xs_iconst dm_Re_absThm_125) ?_
          refine rx (xs_iadd dm_Re_absThm_126) ?_
          refine rx (xs_iload_n dm_Re_absThm_127 rfl) ?_
          refine rcV (as := [.inl (((160 * (M.1.length - 1 - 1) : Nat) : Int) + 2), .inl (((160 * (M.1.length - 1 - 1) : Nat) : Int) + (x1.2.1.length : Int))]) (rest := []) dm_Re_absThm_128 lc_Re_emitRow lm_Re_43 li_Re_emitRow (nr rfl rfl) rfl rfl rfl (nl rfl) (re_emitRow (p := 160 * (M.1.length - 1 - 1) + (0 + 1 + 1)) (l := c) svc (by omega) (by omega) (by omega) (by omega)) ?_
          rintro _ _ ⟨rfl, rfl⟩
          show rX E _ 131 [some (.inr (some E.1.length)), some (.inl ((160 * (M.1.length - 1 - 1) : Nat) : Int)), some (.inl (((160 * (M.1.length - 1 - 1) : Nat) : Int) + (x1.2.1.length : Int))), some (.inl ((160 * (M.1.length - 1 - 0) : Nat) : Int)), some (.inl ((q 6 0) - 1)), o5, none, none] [] _ _
          have o2 := emL_out (em qg 0) c
          have f2 : frM q (emL (em qg 0) c) := frM_tr f1 (frM_emL (by omega))
          refine rx (xs_aload_n dm_Re_absThm_131 rfl) ?_
          refine rx (xs_iload_n dm_Re_absThm_132 rfl) ?_
          refine rx (xs_iconst dm_Re_absThm_133) ?_
          refine rx (xs_iadd dm_Re_absThm_134) ?_
          refine rx (xs_aload_n dm_Re_absThm_135 rfl) ?_
          refine rx (xs_iload_n dm_Re_absThm_136 rfl) ?_
          refine rcV (as := [.inl ((160 * (M.1.length - 1 - 0) : Nat) : Int)]) (rest := [.inl (((160 * (M.1.length - 1 - 0) : Nat) : Int) + 4), .inr (some E.1.length)]) dm_Re_absThm_137 lc_Re_left lm_Re_165 li_Re_left (nr rfl rfl) rfl rfl rfl (nl rfl) (re_left (p := 160 * (M.1.length - 1 - 0)) (a := a0) (frM_sg f2 ua0 (by omega)) ta0 rfl (by omega)) ?_
          rintro _ q1 ⟨rfl, hq1⟩
          have hq1 := hq1.symm
          subst hq1
          show rX E _ 140 [some (.inr (some E.1.length)), some (.inl ((160 * (M.1.length - 1 - 1) : Nat) : Int)), some (.inl (((160 * (M.1.length - 1 - 1) : Nat) : Int) + (x1.2.1.length : Int))), some (.inl ((160 * (M.1.length - 1 - 0) : Nat) : Int)), some (.inl ((q 6 0) - 1)), o5, none, none] [.inl (((160 * (M.1.length - 1 - 0) : Nat) : Int) + 4 + (a0.length : Int)), .inl (((160 * (M.1.length - 1 - 0) : Nat) : Int) + 4), .inr (some E.1.length)] _ _
          refine rcV (as := [.inl (((160 * (M.1.length - 1 - 0) : Nat) : Int) + 4), .inl (((160 * (M.1.length - 1 - 0) : Nat) : Int) + 4 + (a0.length : Int))]) (rest := []) dm_Re_absThm_140 lc_Re_emitRow lm_Re_43 li_Re_emitRow (nr rfl rfl) rfl rfl rfl (nl rfl) (re_emitRow (p := 160 * (M.1.length - 1 - 0) + (0 + 1 + 1 + 1 + 1)) (l := a0) (frM_sg f2 ua0 (by omega)) (by omega) (by omega) (by omega) (by omega)) ?_
          rintro _ _ ⟨rfl, rfl⟩
          show rX E _ 143 [some (.inr (some E.1.length)), some (.inl ((160 * (M.1.length - 1 - 1) : Nat) : Int)), some (.inl (((160 * (M.1.length - 1 - 1) : Nat) : Int) + (x1.2.1.length : Int))), some (.inl ((160 * (M.1.length - 1 - 0) : Nat) : Int)), some (.inl ((q 6 0) - 1)), o5, none, none] [] _ _
          rw [show emL (emL (em qg 0) c) a0 = emL qg (0 :: (c ++ a0)) by simp [emL]]
          have oB := emL_out qg (0 :: (c ++ a0))
          simp only [List.length_cons, List.length_append] at oB
          have sgB : sg (emL qg (0 :: (c ++ a0))) 5200 (0 :: (c ++ a0)) := emL_sg (by omega) w5
          have fb : frM q (emL qg (0 :: (c ++ a0))) := frM_tr fg (frM_emL (by omega))
          have k29 : (emL qg (0 :: (c ++ a0))) 2 28 = 2 := by rw [emL_a (by omega) (by omega)]; exact k28
          have h29 : hyR (emL qg (0 :: (c ++ a0))) 28 [] := emL_h (by omega) h28
          have g29 : (emL qg (0 :: (c ++ a0))) 6 6 = 0 := by rw [emL_s (by omega)]; exact g28
          have lkb : lok (emL qg (0 :: (c ++ a0))) := lok_emL lkg
          have b5 : (emL qg (0 :: (c ++ a0))) 6 5 = ((5200 + (c.length + a0.length + 1) : Nat) : Int) := by omega
          generalize emL qg (0 :: (c ++ a0)) = qb at oB sgB fb k29 h29 g29 lkb b5 ⊢
          show rX E _ 143 [some (.inr (some E.1.length)), some (.inl ((160 * (M.1.length - 1 - 1) : Nat) : Int)), some (.inl (((160 * (M.1.length - 1 - 1) : Nat) : Int) + (x1.2.1.length : Int))), some (.inl ((160 * (M.1.length - 1 - 0) : Nat) : Int)), some (.inl ((q 6 0) - 1)), o5, none, none] [] _ _
          refine rx (xs_aload_n dm_Re_absThm_143 rfl) ?_
          refine rx (rg (v := .inl (qb 6 5)) dm_Re_absThm_144 lf_Re_28 rfl) ?_
          refine rx (xs_istore dm_Re_absThm_147 (by decide)) ?_
          show rX E _ 149 [some (.inr (some E.1.length)), some (.inl ((160 * (M.1.length - 1 - 1) : Nat) : Int)), some (.inl (((160 * (M.1.length - 1 - 1) : Nat) : Int) + (x1.2.1.length : Int))), some (.inl ((160 * (M.1.length - 1 - 0) : Nat) : Int)), some (.inl ((q 6 0) - 1)), some (.inl (qb 6 5)), none, none] [] _ _
          refine rx (xs_aload_n dm_Re_absThm_149 rfl) ?_
          refine rx (xs_iload_n dm_Re_absThm_150 rfl) ?_
          refine rcV (as := [.inl ((160 * (M.1.length - 1 - 0) : Nat) : Int)]) (rest := []) dm_Re_absThm_151 lc_Re_left lm_Re_165 li_Re_left (nr rfl rfl) rfl rfl rfl (nl rfl) (re_left (p := 160 * (M.1.length - 1 - 0)) (a := a0) (frM_sg fb ua0 (by omega)) ta0 rfl (by omega)) ?_
          rintro _ q1 ⟨rfl, hq1⟩
          have hq1 := hq1.symm
          subst hq1
          show rX E _ 154 [some (.inr (some E.1.length)), some (.inl ((160 * (M.1.length - 1 - 1) : Nat) : Int)), some (.inl (((160 * (M.1.length - 1 - 1) : Nat) : Int) + (x1.2.1.length : Int))), some (.inl ((160 * (M.1.length - 1 - 0) : Nat) : Int)), some (.inl ((q 6 0) - 1)), some (.inl (qb 6 5)), none, none] [.inl (((160 * (M.1.length - 1 - 0) : Nat) : Int) + 4 + (a0.length : Int))] _ _
          refine rx (xs_istore dm_Re_absThm_154 (by decide)) ?_
          show rX E _ 156 [some (.inr (some E.1.length)), some (.inl ((160 * (M.1.length - 1 - 1) : Nat) : Int)), some (.inl (((160 * (M.1.length - 1 - 1) : Nat) : Int) + (x1.2.1.length : Int))), some (.inl ((160 * (M.1.length - 1 - 0) : Nat) : Int)), some (.inl ((q 6 0) - 1)), some (.inl (qb 6 5)), some (.inl (((160 * (M.1.length - 1 - 0) : Nat) : Int) + 4 + (a0.length : Int))), none] [] _ _
          refine rx (xs_aload_n dm_Re_absThm_156 rfl) ?_
          refine rx (xs_iload dm_Re_absThm_157 rfl) ?_
          refine rcV (as := [.inl (((160 * (M.1.length - 1 - 0) : Nat) : Int) + 4 + (a0.length : Int))]) (rest := []) dm_Re_absThm_159 lc_Re_skipTerm lm_Re_40 li_Re_skipTerm (nr rfl rfl) rfl rfl rfl (nl rfl) (re_skipTerm (p := 160 * (M.1.length - 1 - 0) + (0 + 1 + 1 + 1 + 1) + a0.length) (frM_sg fb ul0 (by omega)) tl0 (by omega) (by omega) (by simp)) ?_
          rintro _ q1 ⟨rfl, hq1⟩
          have hq1 := hq1.symm
          subst hq1
          show rX E _ 162 [some (.inr (some E.1.length)), some (.inl ((160 * (M.1.length - 1 - 1) : Nat) : Int)), some (.inl (((160 * (M.1.length - 1 - 1) : Nat) : Int) + (x1.2.1.length : Int))), some (.inl ((160 * (M.1.length - 1 - 0) : Nat) : Int)), some (.inl ((q 6 0) - 1)), some (.inl (qb 6 5)), some (.inl (((160 * (M.1.length - 1 - 0) : Nat) : Int) + 4 + (a0.length : Int))), none] [.inl (((160 * (M.1.length - 1 - 0) + (0 + 1 + 1 + 1 + 1) + a0.length : Nat) : Int) + (l0.length : Int))] _ _
          refine rx (xs_istore dm_Re_absThm_162 (by decide)) ?_
          show rX E _ 164 [some (.inr (some E.1.length)), some (.inl ((160 * (M.1.length - 1 - 1) : Nat) : Int)), some (.inl (((160 * (M.1.length - 1 - 1) : Nat) : Int) + (x1.2.1.length : Int))), some (.inl ((160 * (M.1.length - 1 - 0) : Nat) : Int)), some (.inl ((q 6 0) - 1)), some (.inl (qb 6 5)), some (.inl (((160 * (M.1.length - 1 - 0) : Nat) : Int) + 4 + (a0.length : Int))), some (.inl (((160 * (M.1.length - 1 - 0) + (0 + 1 + 1 + 1 + 1) + a0.length : Nat) : Int) + (l0.length : Int)))] [] _ _
          refine rx (xs_aload_n dm_Re_absThm_164 rfl) ?_
          refine rx (xs_sipush dm_Re_absThm_165 (by decide)) ?_
          refine rx (xs_iload dm_Re_absThm_168 rfl) ?_
          have o3 := emL_out qb (12 :: 12 :: 11 :: 0 :: (0 :: (c ++ a0)))
          simp only [List.length_cons, List.length_append] at o3
          refine rcV (as := [.inl 5200, .inl (qb 6 5)]) (rest := []) dm_Re_absThm_170 lc_Re_beginEquation lm_Re_143 li_Re_beginEquation (nr rfl rfl) rfl rfl rfl (nl rfl) (re_beginEquation (p := 5200) (a := 0 :: (c ++ a0)) sgB rfl (by simp; omega) (by omega) (by simp; omega)) ?_
          rintro _ _ ⟨rfl, rfl⟩
          show rX E _ 173 [some (.inr (some E.1.length)), some (.inl ((160 * (M.1.length - 1 - 1) : Nat) : Int)), some (.inl (((160 * (M.1.length - 1 - 1) : Nat) : Int) + (x1.2.1.length : Int))), some (.inl ((160 * (M.1.length - 1 - 0) : Nat) : Int)), some (.inl ((q 6 0) - 1)), some (.inl (qb 6 5)), some (.inl (((160 * (M.1.length - 1 - 0) : Nat) : Int) + 4 + (a0.length : Int))), some (.inl (((160 * (M.1.length - 1 - 0) + (0 + 1 + 1 + 1 + 1) + a0.length : Nat) : Int) + (l0.length : Int)))] [] _ _
          have f3 : frM q (emL qb (12 :: 12 :: 11 :: 0 :: (0 :: (c ++ a0)))) := frM_tr fb (frM_emL (by omega))
          refine rx (xs_aload_n dm_Re_absThm_173 rfl) ?_
          refine rx (xs_iload_n dm_Re_absThm_174 rfl) ?_
          refine rx (xs_iload_n dm_Re_absThm_175 rfl) ?_
          refine rx (xs_iload dm_Re_absThm_176 rfl) ?_
          refine rx (xs_iload dm_Re_absThm_178 rfl) ?_
          have o4 := emL_out (emL qb (12 :: 12 :: 11 :: 0 :: (0 :: (c ++ a0)))) (13 :: (c ++ absC (vw n c) l0 ([], 1) 0))
          simp only [List.length_cons, List.length_append] at o4
          refine rcV (as := [.inl ((160 * (M.1.length - 1 - 1) : Nat) : Int), .inl (((160 * (M.1.length - 1 - 1) : Nat) : Int) + (x1.2.1.length : Int)), .inl (((160 * (M.1.length - 1 - 0) : Nat) : Int) + 4 + (a0.length : Int)), .inl (((160 * (M.1.length - 1 - 0) + (0 + 1 + 1 + 1 + 1) + a0.length : Nat) : Int) + (l0.length : Int))]) (rest := []) dm_Re_absThm_180 lc_Re_emitAbs lm_Re_130 li_Re_emitAbs (nr rfl rfl) rfl rfl rfl (nl rfl) (re_emitAbs (pt := 160 * (M.1.length - 1 - 0) + (0 + 1 + 1 + 1 + 1) + a0.length) (pv := 160 * (M.1.length - 1 - 1)) (c := c) (n := n) (frM_sg f3 ul0 (by omega)) (frM_sg f3 sv (by simp [vw]; omega)) tl0 tc hn (by omega) (by omega) rfl (by omega) (by omega) (by omega) (by omega)) ?_
          rintro _ _ ⟨rfl, rfl⟩
          show rX E _ 183 [some (.inr (some E.1.length)), some (.inl ((160 * (M.1.length - 1 - 1) : Nat) : Int)), some (.inl (((160 * (M.1.length - 1 - 1) : Nat) : Int) + (x1.2.1.length : Int))), some (.inl ((160 * (M.1.length - 1 - 0) : Nat) : Int)), some (.inl ((q 6 0) - 1)), some (.inl (qb 6 5)), some (.inl (((160 * (M.1.length - 1 - 0) : Nat) : Int) + 4 + (a0.length : Int))), some (.inl (((160 * (M.1.length - 1 - 0) + (0 + 1 + 1 + 1 + 1) + a0.length : Nat) : Int) + (l0.length : Int)))] [] _ _
          have f4 : frM q (emL (emL qb (12 :: 12 :: 11 :: 0 :: (0 :: (c ++ a0)))) (13 :: (c ++ absC (vw n c) l0 ([], 1) 0))) := frM_tr f3 (frM_emL (by omega))
          have R4 := Rl_fr hg hR f4 (lok_emL (lok_emL lkb))
          refine rx (xs_aload_n dm_Re_absThm_183 rfl) ?_
          refine rx (xs_iload_n dm_Re_absThm_184 rfl) ?_
          refine rx (xs_iload_n dm_Re_absThm_185 rfl) ?_
          refine rx (xs_iload dm_Re_absThm_186 rfl) ?_
          refine rx (xs_aload_n dm_Re_absThm_188 rfl) ?_
          refine rx (xs_iconst dm_Re_absThm_189) ?_
          refine rcV (as := [.inl 0]) (rest := [.inl (((160 * (M.1.length - 1 - 0) + (0 + 1 + 1 + 1 + 1) + a0.length : Nat) : Int) + (l0.length : Int)), .inl (((160 * (M.1.length - 1 - 1) : Nat) : Int) + (x1.2.1.length : Int)), .inl ((160 * (M.1.length - 1 - 1) : Nat) : Int), .inr (some E.1.length)]) dm_Re_absThm_190 lc_Re_rowEnd lm_Re_97 li_Re_rowEnd (nr rfl rfl) rfl rfl rfl (nl rfl) (re_rowEnd' hg R4 rfl hx0) ?_
          rintro _ q1 ⟨rfl, hq1⟩
          have hq1 := hq1.symm
          subst hq1
          show rX E _ 193 [some (.inr (some E.1.length)), some (.inl ((160 * (M.1.length - 1 - 1) : Nat) : Int)), some (.inl (((160 * (M.1.length - 1 - 1) : Nat) : Int) + (x1.2.1.length : Int))), some (.inl ((160 * (M.1.length - 1 - 0) : Nat) : Int)), some (.inl ((q 6 0) - 1)), some (.inl (qb 6 5)), some (.inl (((160 * (M.1.length - 1 - 0) : Nat) : Int) + 4 + (a0.length : Int))), some (.inl (((160 * (M.1.length - 1 - 0) + (0 + 1 + 1 + 1 + 1) + a0.length : Nat) : Int) + (l0.length : Int)))] [.inl (((160 * (M.1.length - 1 - 0) : Nat) : Int) + (x0.2.1.length : Int)), .inl (((160 * (M.1.length - 1 - 0) + (0 + 1 + 1 + 1 + 1) + a0.length : Nat) : Int) + (l0.length : Int)), .inl (((160 * (M.1.length - 1 - 1) : Nat) : Int) + (x1.2.1.length : Int)), .inl ((160 * (M.1.length - 1 - 1) : Nat) : Int), .inr (some E.1.length)] _ _
          refine rcV (as := [.inl ((160 * (M.1.length - 1 - 1) : Nat) : Int), .inl (((160 * (M.1.length - 1 - 1) : Nat) : Int) + (x1.2.1.length : Int)), .inl (((160 * (M.1.length - 1 - 0) + (0 + 1 + 1 + 1 + 1) + a0.length : Nat) : Int) + (l0.length : Int)), .inl (((160 * (M.1.length - 1 - 0) : Nat) : Int) + (x0.2.1.length : Int))]) (rest := []) dm_Re_absThm_193 lc_Re_emitAbs lm_Re_130 li_Re_emitAbs (nr rfl rfl) rfl rfl rfl (nl rfl) (re_emitAbs (pt := 160 * (M.1.length - 1 - 0) + (0 + 1 + 1 + 1 + 1) + a0.length + l0.length) (pv := 160 * (M.1.length - 1 - 1)) (c := c) (n := n) (frM_sg f4 ur0 (by omega)) (frM_sg f4 sv (by simp [vw]; omega)) tr0 tc hn (by omega) (by omega) rfl (by omega) (by omega) (by omega) (by omega)) ?_
          rintro _ _ ⟨rfl, rfl⟩
          show rX E _ 196 [some (.inr (some E.1.length)), some (.inl ((160 * (M.1.length - 1 - 1) : Nat) : Int)), some (.inl (((160 * (M.1.length - 1 - 1) : Nat) : Int) + (x1.2.1.length : Int))), some (.inl ((160 * (M.1.length - 1 - 0) : Nat) : Int)), some (.inl ((q 6 0) - 1)), some (.inl (qb 6 5)), some (.inl (((160 * (M.1.length - 1 - 0) : Nat) : Int) + 4 + (a0.length : Int))), some (.inl (((160 * (M.1.length - 1 - 0) + (0 + 1 + 1 + 1 + 1) + a0.length : Nat) : Int) + (l0.length : Int)))] [] _ _
          rw [show emL (emL (emL qb (12 :: 12 :: 11 :: 0 :: (0 :: (c ++ a0)))) (13 :: (c ++ absC (vw n c) l0 ([], 1) 0))) (13 :: (c ++ absC (vw n c) r0 ([], 1) 0)) = emL qb (abE x1.2.1 (a0, l0, r0)) by rw [habe]; simp [eqn, emL]]
          generalize abE x1.2.1 (a0, l0, r0) = l at hel ⊢
          show rX E _ 196 [some (.inr (some E.1.length)), some (.inl ((160 * (M.1.length - 1 - 1) : Nat) : Int)), some (.inl (((160 * (M.1.length - 1 - 1) : Nat) : Int) + (x1.2.1.length : Int))), some (.inl ((160 * (M.1.length - 1 - 0) : Nat) : Int)), some (.inl ((q 6 0) - 1)), some (.inl (qb 6 5)), some (.inl (((160 * (M.1.length - 1 - 0) : Nat) : Int) + 4 + (a0.length : Int))), some (.inl (((160 * (M.1.length - 1 - 0) + (0 + 1 + 1 + 1 + 1) + a0.length : Nat) : Int) + (l0.length : Int)))] [] _ _
          refine rx (xs_aload_n dm_Re_absThm_196 rfl) ?_
          refine rx (xs_iconst dm_Re_absThm_197) ?_
          refine rx (xs_iload dm_Re_absThm_198 rfl) ?_
          have key := pa_B (q := emL qb l) (s := 5200 + (c.length + a0.length + 1)) (l := l) (k := 2) (x := ([], false)) (emL_sg (by omega) b5) (by rw [emL_a (by omega) (by omega)]; exact k29) ⟨emL_h (by omega) h29, by rw [emL_s (by omega)]; exact g29⟩ (lok_emL lkb)
          simp only [Bool.or_false] at key
          have fp : frM q (paF (emL qb l) (5200 + (c.length + a0.length + 1)) l.length) := frM_tr fb (frM_tr (frM_emL (by omega)) (frM_part (by decide)))
          refine rcV (as := [.inl 0, .inl (qb 6 5)]) (rest := []) dm_Re_absThm_200 lc_Re_part lm_Re_66 li_Re_part (nr rfl rfl) rfl rfl rfl (nl rfl) (re_pa (s := 5200 + (c.length + a0.length + 1)) (n := l.length) b5 (by rw [emL_out, b5]) (by omega) (by omega)) ?_
          rintro _ _ ⟨rfl, rfl⟩
          show rX E _ 203 [some (.inr (some E.1.length)), some (.inl ((160 * (M.1.length - 1 - 1) : Nat) : Int)), some (.inl (((160 * (M.1.length - 1 - 1) : Nat) : Int) + (x1.2.1.length : Int))), some (.inl ((160 * (M.1.length - 1 - 0) : Nat) : Int)), some (.inl ((q 6 0) - 1)), some (.inl (qb 6 5)), some (.inl (((160 * (M.1.length - 1 - 0) : Nat) : Int) + 4 + (a0.length : Int))), some (.inl (((160 * (M.1.length - 1 - 0) + (0 + 1 + 1 + 1 + 1) + a0.length : Nat) : Int) + (l0.length : Int)))] [] _ _
          refine rx (xs_aload_n dm_Re_absThm_203 rfl) ?_
          refine rx (xs_iload dm_Re_absThm_204 rfl) ?_
          refine rx (rp 5 (by decide) dm_Re_absThm_206 lp_Re_28 (x_ft_i _)) ?_
          have f5 : frM q (u3 (paF (emL qb l) (5200 + (c.length + a0.length + 1)) l.length) 6 5 (qb 6 5)) := frM_tr fp (frM_u6 (by omega))
          have e5 : (u3 (paF (emL qb l) (5200 + (c.length + a0.length + 1)) l.length) 6 5 (qb 6 5)) 6 5 = ((5200 + (c.length + a0.length + 1) : Nat) : Int) := by rw [u3_eq]; exact b5
          have lk5 : lok (u3 (paF (emL qb l) (5200 + (c.length + a0.length + 1)) l.length) 6 5 (qb 6 5)) := lok_u6 key.2.1
          have ob5 : l.length ≤ 40 → rOb (u3 (paF (emL qb l) (5200 + (c.length + a0.length + 1)) l.length) 6 5 (qb 6 5)) 28 (2, l, []) := fun hl => rOb_fr (key.1 hl) (fun a k ht => u3_ne (by unfold tch at ht; omega))
          have hy5 : hyB (u3 (paF (emL qb l) (5200 + (c.length + a0.length + 1)) l.length) 6 5 (qb 6 5)) ([], decide (40 < l.length)) := ⟨hyR_fr key.2.2.1 (fun a k ht => u3_ne (by unfold tch at ht; omega)), by rw [u3_ne (by omega)]; exact key.2.2.2⟩
          generalize u3 (paF (emL qb l) (5200 + (c.length + a0.length + 1)) l.length) 6 5 (qb 6 5) = q5 at f5 e5 lk5 ob5 hy5 ⊢
          have R5 := Rl_fr hg hR f5 lk5
          have hya := (R5.2.1 0 x0 hx0).2.2
          show rX E _ 209 [some (.inr (some E.1.length)), some (.inl ((160 * (M.1.length - 1 - 1) : Nat) : Int)), some (.inl (((160 * (M.1.length - 1 - 1) : Nat) : Int) + (x1.2.1.length : Int))), some (.inl ((160 * (M.1.length - 1 - 0) : Nat) : Int)), some (.inl ((q 6 0) - 1)), some (.inl (qb 6 5)), some (.inl (((160 * (M.1.length - 1 - 0) : Nat) : Int) + 4 + (a0.length : Int))), some (.inl (((160 * (M.1.length - 1 - 0) + (0 + 1 + 1 + 1 + 1) + a0.length : Nat) : Int) + (l0.length : Int)))] [] _ _
          refine rx (xs_aload_n dm_Re_absThm_209 rfl) ?_
          refine rx (xs_iload dm_Re_absThm_210 rfl) ?_
          refine rx (xs_iconst dm_Re_absThm_212) ?_
          refine rx (xs_iconst dm_Re_absThm_213) ?_
          refine rcV (as := [.inl ((q 6 0) - 1), .inl 0, .inl 0]) (rest := []) dm_Re_absThm_214 lc_Re_bring lm_Re_158 li_Re_bring (nr rfl rfl) rfl rfl rfl (nl rfl) (re_bring (o := M.1.length - 1 - 0) (pb := 0) (bl := []) (hs := x0.2.2) (x := ([], decide (40 < l.length))) (by omega) (by omega) rfl rfl (by simp) (by simp [irL]) (gO_ir gx0).2 hya (fun i y hy => by simp at hy) hy5 lk5 (by simp) (by omega) (by omega)) ?_
          rintro _ q6 ⟨rfl, hy6, fw6, lk6, hi6⟩
          show rX E _ 217 [some (.inr (some E.1.length)), some (.inl ((160 * (M.1.length - 1 - 1) : Nat) : Int)), some (.inl (((160 * (M.1.length - 1 - 1) : Nat) : Int) + (x1.2.1.length : Int))), some (.inl ((160 * (M.1.length - 1 - 0) : Nat) : Int)), some (.inl ((q 6 0) - 1)), some (.inl (qb 6 5)), some (.inl (((160 * (M.1.length - 1 - 0) : Nat) : Int) + 4 + (a0.length : Int))), some (.inl (((160 * (M.1.length - 1 - 0) + (0 + 1 + 1 + 1 + 1) + a0.length : Nat) : Int) + (l0.length : Int)))] [] _ _
          have f6 : frM q q6 := frM_tr f5 (frM_W fw6 (by omega))
          refine rx (xs_aload_n dm_Re_absThm_217 rfl) ?_
          refine rx (xs_iconst dm_Re_absThm_218) ?_
          refine rcV (as := [.inl 2]) (rest := []) dm_Re_absThm_219 lc_Re_done lm_Re_91 li_Re_done (nr rfl rfl) rfl rfl rfl (nl rfl) (re_done (n := 2) (x := (2, l, (brg [] ([], decide (40 < l.length)) x0.2.2).1)) (b := (brg [] ([], decide (40 < l.length)) x0.2.2).2) hg (Rl_fr hg hR f6 lk6) rfl (by omega) (by omega) hy6.2 (fun hh => rOb_W (ob5 (by have := brg_fl hh; simp only [decide_eq_false_iff_not] at this; omega)) fw6 (by omega) hy6.1)) ?_
          rintro _ q9 ⟨rfl, hR9⟩
          show rX E _ 222 [some (.inr (some E.1.length)), some (.inl ((160 * (M.1.length - 1 - 1) : Nat) : Int)), some (.inl (((160 * (M.1.length - 1 - 1) : Nat) : Int) + (x1.2.1.length : Int))), some (.inl ((160 * (M.1.length - 1 - 0) : Nat) : Int)), some (.inl ((q 6 0) - 1)), some (.inl (qb 6 5)), some (.inl (((160 * (M.1.length - 1 - 0) : Nat) : Int) + 4 + (a0.length : Int))), some (.inl (((160 * (M.1.length - 1 - 0) + (0 + 1 + 1 + 1 + 1) + a0.length : Nat) : Int) + (l0.length : Int)))] [.inl (fi M 2 (2, l, (brg [] ([], decide (40 < l.length)) x0.2.2).1) (brg [] ([], decide (40 < l.length)) x0.2.2).2).1] _ _
          exact rri dm_Re_absThm_222 rfl ⟨rfl, hR9⟩
      · refine rcV (as := [.inl ((160 * (M.1.length - 1 - 0) : Nat) : Int)]) (rest := []) dm_Re_absThm_39 lc_Re_isEquation lm_Re_162 li_Re_isEquation (nr rfl rfl) rfl rfl rfl (nl rfl) (re_isEq0 wb0 ht0 he0 rfl (by omega) (by simp; omega)) ?_
        rintro _ q1 ⟨rfl, hq1⟩
        have hq1 := hq1.symm
        subst hq1
        show rX E _ 42 [some (.inr (some E.1.length)), some (.inl ((160 * (M.1.length - 1 - 1) : Nat) : Int)), some (.inl (((160 * (M.1.length - 1 - 1) : Nat) : Int) + (x1.2.1.length : Int))), some (.inl ((160 * (M.1.length - 1 - 0) : Nat) : Int)), none, none, none, none] [.inl 0] _ _
        refine rx (xs_if_ne_f (tgt := 47) dm_Re_absThm_42 rfl (by unfold ir; omega) (by decide)) ?_
        refine rx (xs_iconst dm_Re_absThm_45) ?_
        exact rri dm_Re_absThm_46 rfl ⟨vi (by rw [hst0, ifc_f he0]), by rw [hst0, ifc_f he0]; exact hR⟩
    · change rX E _ 17 _ _ _ _
      refine rx (xs_iconst dm_Re_absThm_17) ?_
      exact rri dm_Re_absThm_18 rfl ⟨vi (by rw [st_absT, ifc_f (fun h => hc h.2)]), by rw [st_absT, ifc_f (fun h => hc h.2)]; exact hR⟩
  · show rX E _ 0 [some (.inr (some E.1.length)), none, none, none, none, none, none, none] [] _ _
    refine rx (xs_aload_n dm_Re_absThm_0 rfl) ?_
    refine rx (xs_iconst dm_Re_absThm_1) ?_
    refine rcV (as := [.inl 1]) (rest := []) dm_Re_absThm_2 lc_Re_variable lm_Re_126 li_Re_variable (nr rfl rfl) rfl rfl rfl (nl rfl) (re_variable' (i := 1) (R := 0) hg hR rfl (by decide) (fun h => absurd h hv) (fun _ => rfl)) ?_
    rintro _ q1 ⟨rfl, hq1⟩
    have hq1 := hq1.symm
    subst hq1
    show rX E _ 5 [some (.inr (some E.1.length)), none, none, none, none, none, none, none] [.inl 0] _ _
    refine rx (xs_if_eq_t (tgt := 17) dm_Re_absThm_5 rfl (by unfold ir; omega) (by decide)) ?_
    refine rx (xs_iconst dm_Re_absThm_17) ?_
    exact rri dm_Re_absThm_18 rfl ⟨vi (by rw [st_absT, ifc_f (fun h => hv h.1)]), by rw [st_absT, ifc_f (fun h => hv h.1)]; exact hR⟩
