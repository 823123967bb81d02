/-! inst, instType: the hypotheses, each changed -/
theorem re_retyped' {q : rS} {f g y uf ut : Int} {pt pu : Nat} {t a T : List Int} {K : Int} (hs : sg q pt t) (hT : sg q pu T) (ht : isTm [] t a) (hy : y = 2 + K) (hK : 0 ≤ K ∧ K ≤ 3) (hf : f = pt) (hg : g = (pt : Int) + (t.length : Int)) (huf : uf = pu) (hut : ut = (pu : Int) + (T.length : Int)) (hTl : T.length ≤ 40) (htl : t.length ≤ 10000) (h1 : g ≤ q 6 5) (h2 : ut ≤ q 6 5) (h3 : q 6 5 + 40 * (t.length : Int) ≤ 10000) : rM mm_Re_retyped [.inl f, .inl g, .inl y, .inl uf, .inl ut] q (fun r q' => r = none ∧ q' = emL q (rtC K T t 0)) := by
  intro E
  obtain ⟨r, hf', hm, q', e, h1, h2⟩ := re_retyped (q := q) hs hT ht hy hK hf hg huf hut hTl htl h1 h2 h3 E
  exact ⟨r, hf', hm, q', e, h1, h2 0⟩
set_option maxHeartbeats 4000000 in
set_option maxRecDepth 100000 in
theorem re_inst_l {q0 : rS} {M : mS} {oo : Int} {s : Nat} {x0 : oB} {l : List Int} {vf vt : Int} {x1 x2 : oB} {n : Int} {c : List Int} (hx1 : M.1[1]? = some x1) (hx2 : M.1[2]? = some x2) (hvw : x2.2.1 = vw n c) (tc : isTy c) (hn : 0 ≤ n ∧ n ≤ 7) (hvf : vf = ((160 * (M.1.length - 1 - 2) : Nat) : Int)) (hvt : vt = ((160 * (M.1.length - 1 - 2) : Nat) : Int) + (x2.2.1.length : Int)) {o3 : Option xV} (E : rE) (hg : gM M) (hR0 : Rl q0 M) (hx0 : M.1[0]? = some x0) (hk0 : x0.1 = 2) (hoo : oo = ((M.1.length - 1 - 0 : Nat) : Int)) (hs5 : 5200 ≤ s) (hs6 : s ≤ 8000) : ∀ (N j : Nat) (q : rS) (ii : Int) (x : List (List Int) × Bool) (o6 o7 : Option xV), x0.2.2.length - j < N → j ≤ x0.2.2.length → ii = (j : Int) + 1 → frM q0 q → q 6 5 = (s : Int) → lok q → hyB q x → (∀ h ∈ x.1, irL h) → (x.2 = false → ∃ hs', rOb q 28 (2, l, hs')) → rX E mm_Re_inst 83 [some (.inr (some E.1.length)), some (.inl vf), some (.inl vt), o3, some (.inl oo), some (.inl ii), o6, o7] [] q (fun r q' => r = some (.inl (fi M 3 (2, l, (hfo (fun h => rplC (vw n c) x1.2.1 h 0) x (x0.2.2.drop j)).1) (hfo (fun h => rplC (vw n c) x1.2.1 h 0) x (x0.2.2.drop j)).2).1) ∧ Rl q' (fi M 3 (2, l, (hfo (fun h => rplC (vw n c) x1.2.1 h 0) x (x0.2.2.drop j)).1) (hfo (fun h => rplC (vw n c) x1.2.1 h 0) x (x0.2.2.drop j)).2).2) := by
  intro N
  induction N with
  | zero => intro j q ii x o6 o7 hN; omega
  | succ N ih =>
    intro j q ii x o6 o7 hN hj hii fq b5 hlk' hyx hxi hob
    have hR := Rl_fr hg hR0 fq hlk'
    have g6 := hg.2.2.2.2.2.1
    have g7 := hg.2.2.2.2.2.2.1
    have g8 := hg.2.2.2.2.2.2.2.1
    have g9 := hg.2.2.2.2.2.2.2.2.1
    have g10 := hg.2.2.2.2.2.2.2.2.2
    have r1 := hR.1
    have r4 : q 6 1 = (M.2.2.1.length : Int) := hR.2.2.2.1
    have r6 : q 6 2 = (M.2.2.2.1.length : Int) := hR.2.2.2.2.2.1
    have r8 : q 6 3 = (M.2.2.2.2.1.length : Int) := hR.2.2.2.2.2.2.2.1
    have r10 : q 6 4 = (M.2.2.2.2.2 : Int) := hR.2.2.2.2.2.2.2.2.2.1
    have hlk := hR.2.2.2.2.2.2.2.2.2.2
    obtain ⟨wa0, wb0, wc0⟩ := Rl_row hR0 hx0
    have hlt0 := (List.getElem?_eq_some_iff.mp hx0).1
    have gx0 := gM_top hg hx0
    obtain ⟨wa1, wb1, wc1⟩ := Rl_row hR0 hx1
    have hlt1 := (List.getElem?_eq_some_iff.mp hx1).1
    have gx1 := gM_top hg hx1
    obtain ⟨wa2, wb2, wc2⟩ := Rl_row hR0 hx2
    have hlt2 := (List.getElem?_eq_some_iff.mp hx2).1
    have gx2 := gM_top hg hx2
    have hvl : x2.2.1.length = 2 + c.length := by rw [hvw]; simp [vw]; omega
    obtain ⟨ht0, hl0, hn0, hs0, hh0⟩ := gO_2 gx0 hk0
    obtain ⟨y1, y2, y3⟩ := (hR.2.1 0 x0 hx0).2.2
    by_cases hjn : j = x0.2.2.length
    · rw [hjn, List.drop_length]
      show rX E _ 83 [some (.inr (some E.1.length)), some (.inl vf), some (.inl vt), o3, some (.inl oo), some (.inl ii), o6, o7] [] _ (fun r q' => r = some (.inl (fi M 3 (2, l, x.1) x.2).1) ∧ Rl q' (fi M 3 (2, l, x.1) x.2).2)
      refine rx (xs_iload dm_Re_inst_83 rfl) ?_
      refine rx (xs_aload_n dm_Re_inst_85 rfl) ?_
      refine rx (rg (v := .inr (some (rA E 3))) dm_Re_inst_86 lf_Re_19 rfl) ?_
      refine rx (xs_iload dm_Re_inst_89 rfl) ?_
      refine rx (rlv 3 (x0.2.2.length : Int) (by decide) dm_Re_inst_91 (by omega) (by show _ < ((30 : Nat) : Int); omega) (by rw [show oo.toNat = M.1.length - 1 - 0 by omega]; exact y1)) ?_
      refine rx (xs_icmp_gt_t (tgt := 176) dm_Re_inst_92 rfl (by unfold ir; omega) (by unfold ir; omega) (by omega)) ?_
      refine rx (xs_aload_n dm_Re_inst_176 rfl) ?_
      refine rx (xs_iconst dm_Re_inst_177) ?_
      refine rcV (as := [.inl 3]) (rest := []) dm_Re_inst_178 lc_Re_done lm_Re_91 li_Re_done (nr rfl rfl) rfl rfl rfl (nl rfl) (re_done (n := 3) (x := (2, l, x.1)) (b := x.2) hg hR rfl (by omega) (by omega) hyx.2 (fun hh => by obtain ⟨hs9, a1, a2, a3⟩ := hob hh; exact ⟨a1, a2, hyx.1⟩)) ?_
      rintro _ q9 ⟨rfl, hR9⟩
      show rX E _ 181 [some (.inr (some E.1.length)), some (.inl vf), some (.inl vt), o3, some (.inl oo), some (.inl ii), o6, o7] [.inl (fi M 3 (2, l, x.1) x.2).1] _ _
      exact rri dm_Re_inst_181 rfl ⟨rfl, hR9⟩
    · obtain ⟨h, hh9⟩ : ∃ h, x0.2.2[j]? = some h := ⟨_, List.getElem?_eq_getElem (by omega)⟩
      obtain ⟨w1, w2, w3⟩ := y3 j h hh9
      have hm := List.mem_of_getElem? hh9
      have th := (hh0 h hm).1
      have fl := rpl_len (v := vw n c) (u := x1.2.1) (by omega) h 0
      have fm := rpl_mem (v := vw n c) (u := x1.2.1) h 0
      have hdr : x0.2.2.drop j = h :: x0.2.2.drop (j + 1) := by
        rw [List.drop_eq_getElem_cons (by omega)]
        congr 1
        have := (List.getElem?_eq_some_iff.mp hh9).2
        exact this
      rw [hdr]
      refine rx (xs_iload dm_Re_inst_83 rfl) ?_
      refine rx (xs_aload_n dm_Re_inst_85 rfl) ?_
      refine rx (rg (v := .inr (some (rA E 3))) dm_Re_inst_86 lf_Re_19 rfl) ?_
      refine rx (xs_iload dm_Re_inst_89 rfl) ?_
      refine rx (rlv 3 (x0.2.2.length : Int) (by decide) dm_Re_inst_91 (by omega) (by show _ < ((30 : Nat) : Int); omega) (by rw [show oo.toNat = M.1.length - 1 - 0 by omega]; exact y1)) ?_
      refine rx (xs_icmp_gt_f (tgt := 176) dm_Re_inst_92 rfl (by unfold ir; omega) (by unfold ir; omega) (by omega)) ?_
      refine rx (xs_aload_n dm_Re_inst_95 rfl) ?_
      refine rx (rg (v := .inl (q 6 5)) dm_Re_inst_96 lf_Re_28 rfl) ?_
      refine rx (xs_istore dm_Re_inst_99 (by decide)) ?_
      show rX E _ 101 [some (.inr (some E.1.length)), some (.inl vf), some (.inl vt), o3, some (.inl oo), some (.inl ii), some (.inl (q 6 5)), o7] [] _ _
      refine rx (xs_iload dm_Re_inst_101 rfl) ?_
      refine rx (xs_iload dm_Re_inst_103 rfl) ?_
      refine rcS (as := [.inl oo, .inl ii]) (rest := []) dm_Re_inst_105 lc_Re_base lm_Re_54 li_Re_base (nr rfl rfl) rfl rfl (nl rfl) (re_base _ _) ?_
      show rX E _ 108 [some (.inr (some E.1.length)), some (.inl vf), some (.inl vt), o3, some (.inl oo), some (.inl ii), some (.inl (q 6 5)), o7] [.inl (160 * oo + 40 * ii)] _ _
      refine rx (xs_istore dm_Re_inst_108 (by decide)) ?_
      show rX E _ 110 [some (.inr (some E.1.length)), some (.inl vf), some (.inl vt), o3, some (.inl oo), some (.inl ii), some (.inl (q 6 5)), some (.inl (160 * oo + 40 * ii))] [] _ _
      refine rx (xs_aload_n dm_Re_inst_110 rfl) ?_
      refine rx (xs_iload dm_Re_inst_111 rfl) ?_
      refine rx (xs_iload dm_Re_inst_113 rfl) ?_
      refine rx (xs_aload_n dm_Re_inst_115 rfl) ?_
      refine rx (rg (v := .inr (some (rA E 1))) dm_Re_inst_116 lf_Re_13 rfl) ?_
      refine rx (xs_iconst dm_Re_inst_119) ?_
      refine rx (xs_iload dm_Re_inst_120 rfl) ?_
      refine rx (xs_imul dm_Re_inst_122) ?_
      refine rx (xs_iload dm_Re_inst_123 rfl) ?_
      refine rx (xs_iadd dm_Re_inst_125) ?_
      refine rx (rlv 1 (h.length : Int) (by decide) dm_Re_inst_126 (by omega) (by show _ < ((120 : Nat) : Int); omega) (by rw [show (4 * oo + ii).toNat = 4 * (M.1.length - 1 - 0) + (j + 1) by omega]; exact w1)) ?_
      refine rx (xs_iadd dm_Re_inst_127) ?_
      refine rx (xs_iload_n dm_Re_inst_128 rfl) ?_
      refine rx (xs_iload_n dm_Re_inst_129 rfl) ?_
      refine rx (xs_aload_n dm_Re_inst_130 rfl) ?_
      refine rx (xs_iconst dm_Re_inst_131) ?_
      refine rcV (as := [.inl 1]) (rest := [.inl vt, .inl vf, .inl ((160 * oo + 40 * ii) + (h.length : Int)), .inl (160 * oo + 40 * ii), .inr (some E.1.length)]) dm_Re_inst_132 lc_Re_rowOf lm_Re_94 li_Re_rowOf (nr rfl rfl) rfl rfl rfl (nl rfl) (re_rowOf' hR rfl hx1) ?_
      rintro _ q1 ⟨rfl, hq1⟩
      have hq1 := hq1.symm
      subst hq1
      show rX E _ 135 [some (.inr (some E.1.length)), some (.inl vf), some (.inl vt), o3, some (.inl oo), some (.inl ii), some (.inl (q 6 5)), some (.inl (160 * oo + 40 * ii))] [.inl ((160 * (M.1.length - 1 - 1) : Nat) : Int), .inl vt, .inl vf, .inl ((160 * oo + 40 * ii) + (h.length : Int)), .inl (160 * oo + 40 * ii), .inr (some E.1.length)] _ _
      refine rx (xs_aload_n dm_Re_inst_135 rfl) ?_
      refine rx (xs_iconst dm_Re_inst_136) ?_
      refine rcV (as := [.inl 1]) (rest := [.inl ((160 * (M.1.length - 1 - 1) : Nat) : Int), .inl vt, .inl vf, .inl ((160 * oo + 40 * ii) + (h.length : Int)), .inl (160 * oo + 40 * ii), .inr (some E.1.length)]) dm_Re_inst_137 lc_Re_rowEnd lm_Re_97 li_Re_rowEnd (nr rfl rfl) rfl rfl rfl (nl rfl) (re_rowEnd' hg hR rfl hx1) ?_
      rintro _ q1 ⟨rfl, hq1⟩
      have hq1 := hq1.symm
      subst hq1
      show rX E _ 140 [some (.inr (some E.1.length)), some (.inl vf), some (.inl vt), o3, some (.inl oo), some (.inl ii), some (.inl (q 6 5)), some (.inl (160 * oo + 40 * ii))] [.inl (((160 * (M.1.length - 1 - 1) : Nat) : Int) + (x1.2.1.length : Int)), .inl ((160 * (M.1.length - 1 - 1) : Nat) : Int), .inl vt, .inl vf, .inl ((160 * oo + 40 * ii) + (h.length : Int)), .inl (160 * oo + 40 * ii), .inr (some E.1.length)] _ _
      refine rcV (as := [.inl (160 * oo + 40 * ii), .inl ((160 * oo + 40 * ii) + (h.length : Int)), .inl vf, .inl vt, .inl ((160 * (M.1.length - 1 - 1) : Nat) : Int), .inl (((160 * (M.1.length - 1 - 1) : Nat) : Int) + (x1.2.1.length : Int))]) (rest := []) dm_Re_inst_140 lc_Re_replaced lm_Re_175 li_Re_replaced (nr rfl rfl) rfl rfl rfl (nl rfl) (re_replaced (pt := 160 * (M.1.length - 1 - 0) + 40 * (j + 1)) (pv := 160 * (M.1.length - 1 - 2)) (pu := 160 * (M.1.length - 1 - 1)) (c := c) (n := n) (u := x1.2.1) w2 (by rw [← hvw]; exact frM_sg fq wb2 (by omega)) (frM_sg fq wb1 (by omega)) th tc hn (by omega) (by omega) (by omega) (by omega) (by omega) (by omega) (by omega) (by omega) (by omega) (by omega) (by omega)) ?_
      rintro _ _ ⟨rfl, rfl⟩
      show rX E _ 143 [some (.inr (some E.1.length)), some (.inl vf), some (.inl vt), o3, some (.inl oo), some (.inl ii), some (.inl (q 6 5)), some (.inl (160 * oo + 40 * ii))] [] _ _
      refine rx (xs_iload dm_Re_inst_143 rfl) ?_
      refine rx (xs_if_ne_t (tgt := 158) dm_Re_inst_145 rfl (by unfold ir; omega) (by omega)) ?_
      refine rx (xs_aload_n dm_Re_inst_158 rfl) ?_
      refine rx (xs_iload dm_Re_inst_159 rfl) ?_
      have o1 := emL_out q (rplC (vw n c) x1.2.1 h 0)
      have irF : irL (rplC (vw n c) x1.2.1 h 0) := fun z hz => by
        rcases fm z hz with h1 | h1
        · exact (gO_ir gx0).2 h hm z h1
        · exact (gO_ir gx1).1 z h1
      have fe : frM q (emL q (rplC (vw n c) x1.2.1 h 0)) := frM_emL (by omega)
      have hyE : hyB (emL q (rplC (vw n c) x1.2.1 h 0)) x := ⟨emL_h (by omega) hyx.1, by rw [emL_s (by omega)]; exact hyx.2⟩
      refine rcV (as := [.inl (q 6 5)]) (rest := []) dm_Re_inst_161 lc_Re_hypothesis lm_Re_73 li_Re_hypothesis (nr rfl rfl) rfl rfl rfl (nl rfl) (re_hypothesis (s := s) (l := rplC (vw n c) x1.2.1 h 0) (x := x) b5 (emL_sg (by omega) b5) (by omega) hs5 (by omega) irF hyE hxi (lok_emL hlk)) ?_
      rintro _ q2 ⟨rfl, hy2, fr2, lk2⟩
      show rX E _ 164 [some (.inr (some E.1.length)), some (.inl vf), some (.inl vt), o3, some (.inl oo), some (.inl ii), some (.inl (q 6 5)), some (.inl (160 * oo + 40 * ii))] [] _ _
      refine rx (xs_aload_n dm_Re_inst_164 rfl) ?_
      refine rx (xs_iload dm_Re_inst_165 rfl) ?_
      refine rx (rp 5 (by decide) dm_Re_inst_167 lp_Re_28 (x_ft_i _)) ?_
      refine rx (xs_iinc dm_Re_inst_170 rfl (by decide)) ?_
      show rX E _ 173 [some (.inr (some E.1.length)), some (.inl vf), some (.inl vt), o3, some (.inl oo), some (.inl (ii + 1)), some (.inl (q 6 5)), some (.inl (160 * oo + 40 * ii))] [] _ _
      refine rx (xs_goto (tgt := 83) dm_Re_inst_173 rfl) ?_
      refine ih (j + 1) _ _ (hin (rplC (vw n c) x1.2.1 h 0) x) _ _ (by omega) (by omega) (by omega) (frM_tr fq (frM_tr fe (frM_tr (frM_B fr2) (frM_u6 (by omega))))) (by rw [u3_eq]; exact b5) (lok_u6 lk2) ⟨hyR_fr hy2.1 (fun a k ht => u3_ne (by unfold tch at ht; omega)), by rw [u3_ne (by omega)]; exact hy2.2⟩ (hin_all (P := irL) hxi irF) (fun hh => ?_)
      obtain ⟨hs9, ob9⟩ := hob (hin_fl hh)
      exact ⟨_, rOb_fr (rOb_B (rOb_fr ob9 (fun a k ht => by
        by_cases ha : a = 0
        · subst ha; exact emL_lo (by omega) (by unfold tch at ht; omega)
        · exact emL_a ha (by unfold tch at ht; omega))) fr2 hy2.1) (fun a k ht => u3_ne (by unfold tch at ht; omega))⟩
set_option maxHeartbeats 4000000 in
set_option maxRecDepth 100000 in
theorem re_instType_l {q0 : rS} {M : mS} {oo : Int} {s : Nat} {x0 : oB} {l : List Int} {K : Int} {x1 : oB} (hx1 : M.1[1]? = some x1) (hK : 0 ≤ K ∧ K ≤ 3)  (E : rE) (hg : gM M) (hR0 : Rl q0 M) (hx0 : M.1[0]? = some x0) (hk0 : x0.1 = 2) (hoo : oo = ((M.1.length - 1 - 0 : Nat) : Int)) (hs5 : 5200 ≤ s) (hs6 : s ≤ 8000) : ∀ (N j : Nat) (q : rS) (ii : Int) (x : List (List Int) × Bool) (o6 o7 : Option xV), x0.2.2.length - j < N → j ≤ x0.2.2.length → ii = (j : Int) + 1 → frM q0 q → q 6 5 = (s : Int) → lok q → hyB q x → (∀ h ∈ x.1, irL h) → (x.2 = false → ∃ hs', rOb q 28 (2, l, hs')) → rX E mm_Re_instType 43 [some (.inr (some E.1.length)), some (.inl K), some (.inl oo), some (.inl ii), o6, o7] [] q (fun r q' => r = some (.inl (fi M 2 (2, l, (hfo (fun h => rtC K x1.2.1 h 0) x (x0.2.2.drop j)).1) (hfo (fun h => rtC K x1.2.1 h 0) x (x0.2.2.drop j)).2).1) ∧ Rl q' (fi M 2 (2, l, (hfo (fun h => rtC K x1.2.1 h 0) x (x0.2.2.drop j)).1) (hfo (fun h => rtC K x1.2.1 h 0) x (x0.2.2.drop j)).2).2) := by
  intro N
  induction N with
  | zero => intro j q ii x o6 o7 hN; omega
  | succ N ih =>
    intro j q ii x o6 o7 hN hj hii fq b5 hlk' hyx hxi hob
    have hR := Rl_fr hg hR0 fq hlk'
    have g6 := hg.2.2.2.2.2.1
    have g7 := hg.2.2.2.2.2.2.1
    have g8 := hg.2.2.2.2.2.2.2.1
    have g9 := hg.2.2.2.2.2.2.2.2.1
    have g10 := hg.2.2.2.2.2.2.2.2.2
    have r1 := hR.1
    have r4 : q 6 1 = (M.2.2.1.length : Int) := hR.2.2.2.1
    have r6 : q 6 2 = (M.2.2.2.1.length : Int) := hR.2.2.2.2.2.1
    have r8 : q 6 3 = (M.2.2.2.2.1.length : Int) := hR.2.2.2.2.2.2.2.1
    have r10 : q 6 4 = (M.2.2.2.2.2 : Int) := hR.2.2.2.2.2.2.2.2.2.1
    have hlk := hR.2.2.2.2.2.2.2.2.2.2
    obtain ⟨wa0, wb0, wc0⟩ := Rl_row hR0 hx0
    have hlt0 := (List.getElem?_eq_some_iff.mp hx0).1
    have gx0 := gM_top hg hx0
    obtain ⟨wa1, wb1, wc1⟩ := Rl_row hR0 hx1
    have hlt1 := (List.getElem?_eq_some_iff.mp hx1).1
    have gx1 := gM_top hg hx1
    obtain ⟨ht0, hl0, hn0, hs0, hh0⟩ := gO_2 gx0 hk0
    obtain ⟨y1, y2, y3⟩ := (hR.2.1 0 x0 hx0).2.2
    by_cases hjn : j = x0.2.2.length
    · rw [hjn, List.drop_length]
      show rX E _ 43 [some (.inr (some E.1.length)), some (.inl K), some (.inl oo), some (.inl ii), o6, o7] [] _ (fun r q' => r = some (.inl (fi M 2 (2, l, x.1) x.2).1) ∧ Rl q' (fi M 2 (2, l, x.1) x.2).2)
      refine rx (xs_iload_n dm_Re_instType_43 rfl) ?_
      refine rx (xs_aload_n dm_Re_instType_44 rfl) ?_
      refine rx (rg (v := .inr (some (rA E 3))) dm_Re_instType_45 lf_Re_19 rfl) ?_
      refine rx (xs_iload_n dm_Re_instType_48 rfl) ?_
      refine rx (rlv 3 (x0.2.2.length : Int) (by decide) dm_Re_instType_49 (by omega) (by show _ < ((30 : Nat) : Int); omega) (by rw [show oo.toNat = M.1.length - 1 - 0 by omega]; exact y1)) ?_
      refine rx (xs_icmp_gt_t (tgt := 130) dm_Re_instType_50 rfl (by unfold ir; omega) (by unfold ir; omega) (by omega)) ?_
      refine rx (xs_aload_n dm_Re_instType_130 rfl) ?_
      refine rx (xs_iconst dm_Re_instType_131) ?_
      refine rcV (as := [.inl 2]) (rest := []) dm_Re_instType_132 lc_Re_done lm_Re_91 li_Re_done (nr rfl rfl) rfl rfl rfl (nl rfl) (re_done (n := 2) (x := (2, l, x.1)) (b := x.2) hg hR rfl (by omega) (by omega) hyx.2 (fun hh => by obtain ⟨hs9, a1, a2, a3⟩ := hob hh; exact ⟨a1, a2, hyx.1⟩)) ?_
      rintro _ q9 ⟨rfl, hR9⟩
      show rX E _ 135 [some (.inr (some E.1.length)), some (.inl K), some (.inl oo), some (.inl ii), o6, o7] [.inl (fi M 2 (2, l, x.1) x.2).1] _ _
      exact rri dm_Re_instType_135 rfl ⟨rfl, hR9⟩
    · obtain ⟨h, hh9⟩ : ∃ h, x0.2.2[j]? = some h := ⟨_, List.getElem?_eq_getElem (by omega)⟩
      obtain ⟨w1, w2, w3⟩ := y3 j h hh9
      have hm := List.mem_of_getElem? hh9
      have th := (hh0 h hm).1
      have fl := rt_len (K := K) (T := x1.2.1) (by omega) h 0
      have fm := rt_mem (K := K) (T := x1.2.1) h 0
      have hdr : x0.2.2.drop j = h :: x0.2.2.drop (j + 1) := by
        rw [List.drop_eq_getElem_cons (by omega)]
        congr 1
        have := (List.getElem?_eq_some_iff.mp hh9).2
        exact this
      rw [hdr]
      refine rx (xs_iload_n dm_Re_instType_43 rfl) ?_
      refine rx (xs_aload_n dm_Re_instType_44 rfl) ?_
      refine rx (rg (v := .inr (some (rA E 3))) dm_Re_instType_45 lf_Re_19 rfl) ?_
      refine rx (xs_iload_n dm_Re_instType_48 rfl) ?_
      refine rx (rlv 3 (x0.2.2.length : Int) (by decide) dm_Re_instType_49 (by omega) (by show _ < ((30 : Nat) : Int); omega) (by rw [show oo.toNat = M.1.length - 1 - 0 by omega]; exact y1)) ?_
      refine rx (xs_icmp_gt_f (tgt := 130) dm_Re_instType_50 rfl (by unfold ir; omega) (by unfold ir; omega) (by omega)) ?_
      refine rx (xs_aload_n dm_Re_instType_53 rfl) ?_
      refine rx (rg (v := .inl (q 6 5)) dm_Re_instType_54 lf_Re_28 rfl) ?_
      refine rx (xs_istore dm_Re_instType_57 (by decide)) ?_
      show rX E _ 59 [some (.inr (some E.1.length)), some (.inl K), some (.inl oo), some (.inl ii), some (.inl (q 6 5)), o7] [] _ _
      refine rx (xs_iload_n dm_Re_instType_59 rfl) ?_
      refine rx (xs_iload_n dm_Re_instType_60 rfl) ?_
      refine rcS (as := [.inl oo, .inl ii]) (rest := []) dm_Re_instType_61 lc_Re_base lm_Re_54 li_Re_base (nr rfl rfl) rfl rfl (nl rfl) (re_base _ _) ?_
      show rX E _ 64 [some (.inr (some E.1.length)), some (.inl K), some (.inl oo), some (.inl ii), some (.inl (q 6 5)), o7] [.inl (160 * oo + 40 * ii)] _ _
      refine rx (xs_istore dm_Re_instType_64 (by decide)) ?_
      show rX E _ 66 [some (.inr (some E.1.length)), some (.inl K), some (.inl oo), some (.inl ii), some (.inl (q 6 5)), some (.inl (160 * oo + 40 * ii))] [] _ _
      refine rx (xs_aload_n dm_Re_instType_66 rfl) ?_
      refine rx (xs_iload dm_Re_instType_67 rfl) ?_
      refine rx (xs_iload dm_Re_instType_69 rfl) ?_
      refine rx (xs_aload_n dm_Re_instType_71 rfl) ?_
      refine rx (rg (v := .inr (some (rA E 1))) dm_Re_instType_72 lf_Re_13 rfl) ?_
      refine rx (xs_iconst dm_Re_instType_75) ?_
      refine rx (xs_iload_n dm_Re_instType_76 rfl) ?_
      refine rx (xs_imul dm_Re_instType_77) ?_
      refine rx (xs_iload_n dm_Re_instType_78 rfl) ?_
      refine rx (xs_iadd dm_Re_instType_79) ?_
      refine rx (rlv 1 (h.length : Int) (by decide) dm_Re_instType_80 (by omega) (by show _ < ((120 : Nat) : Int); omega) (by rw [show (4 * oo + ii).toNat = 4 * (M.1.length - 1 - 0) + (j + 1) by omega]; exact w1)) ?_
      refine rx (xs_iadd dm_Re_instType_81) ?_
      refine rx (xs_iconst dm_Re_instType_82) ?_
      refine rx (xs_iload_n dm_Re_instType_83 rfl) ?_
      refine rx (xs_iadd dm_Re_instType_84) ?_
      refine rx (xs_aload_n dm_Re_instType_85 rfl) ?_
      refine rx (xs_iconst dm_Re_instType_86) ?_
      refine rcV (as := [.inl 1]) (rest := [.inl (2 + K), .inl ((160 * oo + 40 * ii) + (h.length : Int)), .inl (160 * oo + 40 * ii), .inr (some E.1.length)]) dm_Re_instType_87 lc_Re_rowOf lm_Re_94 li_Re_rowOf (nr rfl rfl) rfl rfl rfl (nl rfl) (re_rowOf' hR rfl hx1) ?_
      rintro _ q1 ⟨rfl, hq1⟩
      have hq1 := hq1.symm
      subst hq1
      show rX E _ 90 [some (.inr (some E.1.length)), some (.inl K), some (.inl oo), some (.inl ii), some (.inl (q 6 5)), some (.inl (160 * oo + 40 * ii))] [.inl ((160 * (M.1.length - 1 - 1) : Nat) : Int), .inl (2 + K), .inl ((160 * oo + 40 * ii) + (h.length : Int)), .inl (160 * oo + 40 * ii), .inr (some E.1.length)] _ _
      refine rx (xs_aload_n dm_Re_instType_90 rfl) ?_
      refine rx (xs_iconst dm_Re_instType_91) ?_
      refine rcV (as := [.inl 1]) (rest := [.inl ((160 * (M.1.length - 1 - 1) : Nat) : Int), .inl (2 + K), .inl ((160 * oo + 40 * ii) + (h.length : Int)), .inl (160 * oo + 40 * ii), .inr (some E.1.length)]) dm_Re_instType_92 lc_Re_rowEnd lm_Re_97 li_Re_rowEnd (nr rfl rfl) rfl rfl rfl (nl rfl) (re_rowEnd' hg hR rfl hx1) ?_
      rintro _ q1 ⟨rfl, hq1⟩
      have hq1 := hq1.symm
      subst hq1
      show rX E _ 95 [some (.inr (some E.1.length)), some (.inl K), some (.inl oo), some (.inl ii), some (.inl (q 6 5)), some (.inl (160 * oo + 40 * ii))] [.inl (((160 * (M.1.length - 1 - 1) : Nat) : Int) + (x1.2.1.length : Int)), .inl ((160 * (M.1.length - 1 - 1) : Nat) : Int), .inl (2 + K), .inl ((160 * oo + 40 * ii) + (h.length : Int)), .inl (160 * oo + 40 * ii), .inr (some E.1.length)] _ _
      refine rcV (as := [.inl (160 * oo + 40 * ii), .inl ((160 * oo + 40 * ii) + (h.length : Int)), .inl (2 + K), .inl ((160 * (M.1.length - 1 - 1) : Nat) : Int), .inl (((160 * (M.1.length - 1 - 1) : Nat) : Int) + (x1.2.1.length : Int))]) (rest := []) dm_Re_instType_95 lc_Re_retyped lm_Re_179 li_Re_retyped (nr rfl rfl) rfl rfl rfl (nl rfl) (re_retyped' (pt := 160 * (M.1.length - 1 - 0) + 40 * (j + 1)) (pu := 160 * (M.1.length - 1 - 1)) (K := K) (T := x1.2.1) w2 (frM_sg fq wb1 (by omega)) th (by omega) hK (by omega) (by omega) (by omega) (by omega) (by omega) (by omega) (by omega) (by omega) (by omega)) ?_
      rintro _ _ ⟨rfl, rfl⟩
      show rX E _ 98 [some (.inr (some E.1.length)), some (.inl K), some (.inl oo), some (.inl ii), some (.inl (q 6 5)), some (.inl (160 * oo + 40 * ii))] [] _ _
      refine rx (xs_iload_n dm_Re_instType_98 rfl) ?_
      refine rx (xs_if_ne_t (tgt := 112) dm_Re_instType_99 rfl (by unfold ir; omega) (by omega)) ?_
      refine rx (xs_aload_n dm_Re_instType_112 rfl) ?_
      refine rx (xs_iload dm_Re_instType_113 rfl) ?_
      have o1 := emL_out q (rtC K x1.2.1 h 0)
      have irF : irL (rtC K x1.2.1 h 0) := fun z hz => by
        rcases fm z hz with h1 | h1
        · exact (gO_ir gx0).2 h hm z h1
        · exact (gO_ir gx1).1 z h1
      have fe : frM q (emL q (rtC K x1.2.1 h 0)) := frM_emL (by omega)
      have hyE : hyB (emL q (rtC K x1.2.1 h 0)) x := ⟨emL_h (by omega) hyx.1, by rw [emL_s (by omega)]; exact hyx.2⟩
      refine rcV (as := [.inl (q 6 5)]) (rest := []) dm_Re_instType_115 lc_Re_hypothesis lm_Re_73 li_Re_hypothesis (nr rfl rfl) rfl rfl rfl (nl rfl) (re_hypothesis (s := s) (l := rtC K x1.2.1 h 0) (x := x) b5 (emL_sg (by omega) b5) (by omega) hs5 (by omega) irF hyE hxi (lok_emL hlk)) ?_
      rintro _ q2 ⟨rfl, hy2, fr2, lk2⟩
      show rX E _ 118 [some (.inr (some E.1.length)), some (.inl K), some (.inl oo), some (.inl ii), some (.inl (q 6 5)), some (.inl (160 * oo + 40 * ii))] [] _ _
      refine rx (xs_aload_n dm_Re_instType_118 rfl) ?_
      refine rx (xs_iload dm_Re_instType_119 rfl) ?_
      refine rx (rp 5 (by decide) dm_Re_instType_121 lp_Re_28 (x_ft_i _)) ?_
      refine rx (xs_iinc dm_Re_instType_124 rfl (by decide)) ?_
      show rX E _ 127 [some (.inr (some E.1.length)), some (.inl K), some (.inl oo), some (.inl (ii + 1)), some (.inl (q 6 5)), some (.inl (160 * oo + 40 * ii))] [] _ _
      refine rx (xs_goto (tgt := 43) dm_Re_instType_127 rfl) ?_
      refine ih (j + 1) _ _ (hin (rtC K x1.2.1 h 0) x) _ _ (by omega) (by omega) (by omega) (frM_tr fq (frM_tr fe (frM_tr (frM_B fr2) (frM_u6 (by omega))))) (by rw [u3_eq]; exact b5) (lok_u6 lk2) ⟨hyR_fr hy2.1 (fun a k ht => u3_ne (by unfold tch at ht; omega)), by rw [u3_ne (by omega)]; exact hy2.2⟩ (hin_all (P := irL) hxi irF) (fun hh => ?_)
      obtain ⟨hs9, ob9⟩ := hob (hin_fl hh)
      exact ⟨_, rOb_fr (rOb_B (rOb_fr ob9 (fun a k ht => by
        by_cases ha : a = 0
        · subst ha; exact emL_lo (by omega) (by unfold tch at ht; omega)
        · exact emL_a ha (by unfold tch at ht; omega))) fr2 hy2.1) (fun a k ht => u3_ne (by unfold tch at ht; omega))⟩
set_option maxHeartbeats 4000000 in
set_option maxRecDepth 100000 in
theorem re_inst {q : rS} {M : mS} (hg : gM M) (hR : Rl q M) : rM mm_Re_inst [] q (fun r q' => r = some (.inl (st_inst M).1) ∧ Rl q' (st_inst M).2) := by
  refine rm rfl (nl rfl) (fun E => ?_)
  have g6 := hg.2.2.2.2.2.1
  have g7 := hg.2.2.2.2.2.2.1
  have g8 := hg.2.2.2.2.2.2.2.1
  have g9 := hg.2.2.2.2.2.2.2.2.1
  have g10 := hg.2.2.2.2.2.2.2.2.2
  have r1 := hR.1
  have r4 : q 6 1 = (M.2.2.1.length : Int) := hR.2.2.2.1
  have r6 : q 6 2 = (M.2.2.2.1.length : Int) := hR.2.2.2.2.2.1
  have r8 : q 6 3 = (M.2.2.2.2.1.length : Int) := hR.2.2.2.2.2.2.2.1
  have r10 : q 6 4 = (M.2.2.2.2.2 : Int) := hR.2.2.2.2.2.2.2.2.2.1
  have hlk := hR.2.2.2.2.2.2.2.2.2.2
  have i0 := (kd_ir hg 0).1
  have i1 := (kd_ir hg 1).1
  by_cases hv : vb M 2
  · show rX E _ 0 [some (.inr (some E.1.length)), none, none, none, none, none, none, none] [] _ _
    refine rx (xs_aload_n dm_Re_inst_0 rfl) ?_
    refine rx (xs_iconst dm_Re_inst_1) ?_
    refine rcV (as := [.inl 2]) (rest := []) dm_Re_inst_2 lc_Re_variable lm_Re_126 li_Re_variable (nr rfl rfl) rfl rfl rfl (nl rfl) (re_variable' (i := 2) (R := 1) hg hR rfl (by decide) (fun _ => rfl) (fun h => absurd hv h)) ?_
    rintro _ q1 ⟨rfl, hq1⟩
    have hq1 := hq1.symm
    subst hq1
    show rX E _ 5 [some (.inr (some E.1.length)), none, none, none, none, none, none, none] [.inl 1] _ _
    refine rx (xs_if_eq_f (tgt := 26) dm_Re_inst_5 rfl (by unfold ir; omega) (by decide)) ?_
    refine rx (xs_aload_n dm_Re_inst_8 rfl) ?_
    refine rx (xs_iconst dm_Re_inst_9) ?_
    refine rcV (as := [.inl 1]) (rest := []) dm_Re_inst_10 lc_Re_top lm_Re_85 li_Re_top (nr rfl rfl) rfl rfl rfl (nl rfl) (re_top' (i := 1) hg hR rfl (by decide)) ?_
    rintro _ q1 ⟨rfl, hq1⟩
    have hq1 := hq1.symm
    subst hq1
    show rX E _ 13 [some (.inr (some E.1.length)), none, none, none, none, none, none, none] [.inl (kd M 1)] _ _
    refine rx (xs_iconst dm_Re_inst_13) ?_
    refine xx_icmp_ne (tgt := 26) dm_Re_inst_14 rfl i1 (by unfold ir; omega) (fun hc => ?_) (fun hc => ?_)
    · change rX E _ 26 _ _ _ _
      refine rx (xs_iconst dm_Re_inst_26) ?_
      exact rri dm_Re_inst_27 rfl ⟨vi (by rw [st_inst, ifc_f (fun h => hc h.2.1)]), by rw [st_inst, ifc_f (fun h => hc h.2.1)]; exact hR⟩
    · change rX E _ 17 _ _ _ _
      refine rx (xs_aload_n dm_Re_inst_17 rfl) ?_
      refine rx (xs_iconst dm_Re_inst_18) ?_
      refine rcV (as := [.inl 0]) (rest := []) dm_Re_inst_19 lc_Re_top lm_Re_85 li_Re_top (nr rfl rfl) rfl rfl rfl (nl rfl) (re_top' (i := 0) hg hR rfl (by decide)) ?_
      rintro _ q1 ⟨rfl, hq1⟩
      have hq1 := hq1.symm
      subst hq1
      show rX E _ 22 [some (.inr (some E.1.length)), none, none, none, none, none, none, none] [.inl (kd M 0)] _ _
      refine rx (xs_iconst dm_Re_inst_22) ?_
      refine xx_icmp_eq (tgt := 28) dm_Re_inst_23 rfl i0 (by unfold ir; omega) (fun hc2 => ?_) (fun hc2 => ?_)
      · change rX E _ 28 _ _ _ _
        have hk0 := hc2
        have hk1 : kd M 1 = 1 := by omega
        have hk2 := hv.1
        obtain ⟨x0, hx0, ka0, kb0, kc0⟩ := kd_some (M := M) (i := 0) (by rw [hk0]; decide)
        obtain ⟨wa0, wb0, wc0⟩ := Rl_row hR hx0
        have hlt0 := (List.getElem?_eq_some_iff.mp hx0).1
        have gx0 := gM_top hg hx0
        obtain ⟨x1, hx1, ka1, kb1, kc1⟩ := kd_some (M := M) (i := 1) (by rw [hk1]; decide)
        obtain ⟨wa1, wb1, wc1⟩ := Rl_row hR hx1
        have hlt1 := (List.getElem?_eq_some_iff.mp hx1).1
        have gx1 := gM_top hg hx1
        obtain ⟨x2, hx2, ka2, kb2, kc2⟩ := kd_some (M := M) (i := 2) (by rw [hk2]; decide)
        obtain ⟨wa2, wb2, wc2⟩ := Rl_row hR hx2
        have hlt2 := (List.getElem?_eq_some_iff.mp hx2).1
        have gx2 := gM_top hg hx2
        obtain ⟨ht0, hl0, hn0, hs0, hh0⟩ := gO_2 gx0 (ka0.symm.trans hk0)
        obtain ⟨⟨a1, ht1⟩, hl1, -⟩ := gO_1 gx1 (ka1.symm.trans hk1)
        have hA1 := isTm_tl ht1 x1.2.1.length (by simp) (Nat.le_refl _)
        obtain ⟨n, c, hvw, tc, hn⟩ := vb_of hg hx2 hv
        have hvl : x2.2.1.length = 2 + c.length := by rw [hvw]; simp [vw]; omega
        have hst0 : st_inst M = ifc (c = a1) (fi M 3 (2, rplC (vw n c) x1.2.1 x0.2.1 0, (hfo (fun h => rplC (vw n c) x1.2.1 h 0) ([], decide (40 < (rplC (vw n c) x1.2.1 x0.2.1 0).length)) x0.2.2).1) (hfo (fun h => rplC (vw n c) x1.2.1 h 0) ([], decide (40 < (rplC (vw n c) x1.2.1 x0.2.1 0).length)) x0.2.2).2) (2, M) := by rw [st_inst, ifc_t ⟨hv, hk1, hk0⟩, kb0, kb1, kb2, kc0, tyO_of ht1, hvw]; rfl
        refine rx (xs_aload_n dm_Re_inst_28 rfl) ?_
        refine rcV (as := []) (rest := []) dm_Re_inst_29 lc_Re_begin lm_Re_88 li_Re_begin (nr rfl rfl) rfl rfl rfl (nl rfl) (re_begin) ?_
        rintro _ _ ⟨rfl, rfl⟩
        show rX E _ 32 [some (.inr (some E.1.length)), none, none, none, none, none, none, none] [] _ _
        have w5 := bg_5 q
        have fg := frM_bg q
        have lkg := lok_bg hlk
        have R0 := Rl_fr hg hR fg lkg
        have k28' := bg_2 q
        have h28' := hy0 (bg_3 q)
        have g28' := bg_6 q
        generalize bg q = qg at w5 fg lkg R0 k28' h28' g28' ⊢
        show rX E _ 32 [some (.inr (some E.1.length)), none, none, none, none, none, none, none] [] _ _
        refine rx (xs_aload_n dm_Re_inst_32 rfl) ?_
        refine rx (xs_iconst dm_Re_inst_33) ?_
        refine rcV (as := [.inl 2]) (rest := []) dm_Re_inst_34 lc_Re_rowOf lm_Re_94 li_Re_rowOf (nr rfl rfl) rfl rfl rfl (nl rfl) (re_rowOf' R0 rfl hx2) ?_
        rintro _ q1 ⟨rfl, hq1⟩
        have hq1 := hq1.symm
        subst hq1
        show rX E _ 37 [some (.inr (some E.1.length)), none, none, none, none, none, none, none] [.inl ((160 * (M.1.length - 1 - 2) : Nat) : Int)] _ _
        refine rx (xs_istore_n dm_Re_inst_37 (by decide)) ?_
        show rX E _ 38 [some (.inr (some E.1.length)), some (.inl ((160 * (M.1.length - 1 - 2) : Nat) : Int)), none, none, none, none, none, none] [] _ _
        refine rx (xs_aload_n dm_Re_inst_38 rfl) ?_
        refine rx (xs_iconst dm_Re_inst_39) ?_
        refine rcV (as := [.inl 2]) (rest := []) dm_Re_inst_40 lc_Re_rowEnd lm_Re_97 li_Re_rowEnd (nr rfl rfl) rfl rfl rfl (nl rfl) (re_rowEnd' hg R0 rfl hx2) ?_
        rintro _ q1 ⟨rfl, hq1⟩
        have hq1 := hq1.symm
        subst hq1
        show rX E _ 43 [some (.inr (some E.1.length)), some (.inl ((160 * (M.1.length - 1 - 2) : Nat) : Int)), none, none, none, none, none, none] [.inl (((160 * (M.1.length - 1 - 2) : Nat) : Int) + (x2.2.1.length : Int))] _ _
        refine rx (xs_istore_n dm_Re_inst_43 (by decide)) ?_
        show rX E _ 44 [some (.inr (some E.1.length)), some (.inl ((160 * (M.1.length - 1 - 2) : Nat) : Int)), some (.inl (((160 * (M.1.length - 1 - 2) : Nat) : Int) + (x2.2.1.length : Int))), none, none, none, none, none] [] _ _
        refine rx (xs_aload_n dm_Re_inst_44 rfl) ?_
        refine rx (xs_aload_n dm_Re_inst_45 rfl) ?_
        refine rx (xs_iconst dm_Re_inst_46) ?_
        refine rcV (as := [.inl 1]) (rest := [.inr (some E.1.length)]) dm_Re_inst_47 lc_Re_rowOf lm_Re_94 li_Re_rowOf (nr rfl rfl) rfl rfl rfl (nl rfl) (re_rowOf' R0 rfl hx1) ?_
        rintro _ q1 ⟨rfl, hq1⟩
        have hq1 := hq1.symm
        subst hq1
        show rX E _ 50 [some (.inr (some E.1.length)), some (.inl ((160 * (M.1.length - 1 - 2) : Nat) : Int)), some (.inl (((160 * (M.1.length - 1 - 2) : Nat) : Int) + (x2.2.1.length : Int))), none, none, none, none, none] [.inl ((160 * (M.1.length - 1 - 1) : Nat) : Int), .inr (some E.1.length)] _ _
        refine rcV (as := [.inl ((160 * (M.1.length - 1 - 1) : Nat) : Int)]) (rest := []) dm_Re_inst_50 lc_Re_typeOf lm_Re_106 li_Re_typeOf (nr rfl rfl) rfl rfl rfl (nl rfl) (re_typeOf (p := 160 * (M.1.length - 1 - 1)) (t := x1.2.1) (a := a1) (frM_sg fg wb1 (by omega)) ht1 rfl (by omega) (by omega) (by omega)) ?_
        rintro _ qb ⟨rfl, B, hqb⟩
        show rX E _ 53 [some (.inr (some E.1.length)), some (.inl ((160 * (M.1.length - 1 - 2) : Nat) : Int)), some (.inl (((160 * (M.1.length - 1 - 2) : Nat) : Int) + (x2.2.1.length : Int))), none, none, none, none, none] [.inl (qg 6 5)] _ _
        rw [w5]
        obtain ⟨s, hs⟩ : ∃ s : Nat, s = 5200 + a1.length := ⟨_, rfl⟩
        have b5 : qb 6 5 = (s : Int) := by rw [hqb]; show (emL qg a1) 6 5 = _; rw [emL_out, w5]; omega
        have fb : frM q qb := by rw [hqb]; exact frM_tr fg (frM_tr (frM_emL (by omega)) (frM_wb _ B))
        have k28 : qb 2 28 = 2 := by rw [hqb]; show (emL qg a1) 2 28 = 2; rw [emL_a (by omega) (by omega)]; exact k28'
        have h28 : hyR qb 28 [] := hy0 (by rw [hqb]; show (emL qg a1) 3 28 = 0; rw [emL_a (by omega) (by omega)]; exact h28'.1)
        have g28 : qb 6 6 = 0 := by rw [hqb]; show (emL qg a1) 6 6 = 0; rw [emL_s (by omega)]; exact g28'
        have lkb : lok qb := by rw [hqb]; exact lok_wb (lok_emL lkg)
        have sgA : sg qb 5200 a1 := by
          rw [hqb]
          intro i y hi
          show (emL qg a1) 0 _ = _
          exact emL_sg (p := 5200) (by omega) w5 i y hi
        have hs5 : 5200 ≤ s := by omega
        have hs6 : s ≤ 8000 := by omega
        have Rb := Rl_fr hg hR fb lkb
        clear hqb
        have svc := (sg_app.mp (show sg qb (160 * (M.1.length - 1 - 2)) ([10, n] ++ c) from by have := frM_sg fb wb2 (by omega); rw [hvw] at this; exact this)).2
        simp only [List.length_cons, List.length_nil] at svc
        show rX E _ 53 [some (.inr (some E.1.length)), some (.inl ((160 * (M.1.length - 1 - 2) : Nat) : Int)), some (.inl (((160 * (M.1.length - 1 - 2) : Nat) : Int) + (x2.2.1.length : Int))), none, none, none, none, none] [.inl 5200] _ _
        refine rx (xs_istore_n dm_Re_inst_53 (by decide)) ?_
        show rX E _ 54 [some (.inr (some E.1.length)), some (.inl ((160 * (M.1.length - 1 - 2) : Nat) : Int)), some (.inl (((160 * (M.1.length - 1 - 2) : Nat) : Int) + (x2.2.1.length : Int))), some (.inl 5200), none, none, none, none] [] _ _
        refine rx (xs_aload_n dm_Re_inst_54 rfl) ?_
        refine rx (xs_iload_n dm_Re_inst_55 rfl) ?_
        refine rx (xs_iconst dm_Re_inst_56) ?_
        refine rx (xs_iadd dm_Re_inst_57) ?_
        refine rx (xs_iload_n dm_Re_inst_58 rfl) ?_
        refine rx (xs_iload_n dm_Re_inst_59 rfl) ?_
        refine rx (xs_aload_n dm_Re_inst_60 rfl) ?_
        refine rx (rg (v := .inl (qb 6 5)) dm_Re_inst_61 lf_Re_28 rfl) ?_
        refine rcV (as := [.inl (((160 * (M.1.length - 1 - 2) : Nat) : Int) + 2), .inl (((160 * (M.1.length - 1 - 2) : Nat) : Int) + (x2.2.1.length : Int)), .inl 5200, .inl (qb 6 5)]) (rest := []) dm_Re_inst_64 lc_Re_sameRow lm_Re_69 li_Re_sameRow (nr rfl rfl) rfl rfl rfl (nl rfl) (re_sameRow (p := 160 * (M.1.length - 1 - 2) + (0 + 1 + 1)) (p2 := 5200) svc sgA (by omega) (by omega) rfl (by omega) (by omega) (by omega) (isTy_ir tc) (isTy_ir (isTm_ty ht1))) ?_
        rintro _ q1 ⟨rfl, hq1⟩
        have hq1 := hq1.symm
        subst hq1
        show rX E _ 67 [some (.inr (some E.1.length)), some (.inl ((160 * (M.1.length - 1 - 2) : Nat) : Int)), some (.inl (((160 * (M.1.length - 1 - 2) : Nat) : Int) + (x2.2.1.length : Int))), some (.inl 5200), none, none, none, none] [.inl (if c = a1 then 1 else 0)] _ _
        by_cases hca : c = a1
        · rw [if_pos hca, hst0, ifc_t hca]
          refine rx (xs_if_ne_t (tgt := 72) dm_Re_inst_67 rfl (by unfold ir; omega) (by decide)) ?_
          refine rx (xs_aload_n dm_Re_inst_72 rfl) ?_
          refine rx (rg (v := .inl (qb 6 0)) dm_Re_inst_73 lf_Re_79 rfl) ?_
          refine rx (xs_iconst dm_Re_inst_76) ?_
          refine rx (xs_isub dm_Re_inst_77) ?_
          refine rx (xs_istore dm_Re_inst_78 (by decide)) ?_
          show rX E _ 80 [some (.inr (some E.1.length)), some (.inl ((160 * (M.1.length - 1 - 2) : Nat) : Int)), some (.inl (((160 * (M.1.length - 1 - 2) : Nat) : Int) + (x2.2.1.length : Int))), some (.inl 5200), some (.inl ((qb 6 0) - 1)), none, none, none] [] _ _
          refine rx (xs_iconst dm_Re_inst_80) ?_
          refine rx (xs_istore dm_Re_inst_81 (by decide)) ?_
          show rX E _ 83 [some (.inr (some E.1.length)), some (.inl ((160 * (M.1.length - 1 - 2) : Nat) : Int)), some (.inl (((160 * (M.1.length - 1 - 2) : Nat) : Int) + (x2.2.1.length : Int))), some (.inl 5200), some (.inl ((qb 6 0) - 1)), some (.inl 0), none, none] [] _ _
          have y1 := (Rb.2.1 0 x0 hx0).2.2.1
          have fl := rpl_len (v := vw n c) (u := x1.2.1) (by omega) x0.2.1 0
          have fq := fb
          have z0 : qb 6 0 = (M.1.length : Int) := Rb.1
          refine rx (xs_iload dm_Re_inst_83 rfl) ?_
          refine rx (xs_aload_n dm_Re_inst_85 rfl) ?_
          refine rx (rg (v := .inr (some (rA E 3))) dm_Re_inst_86 lf_Re_19 rfl) ?_
          refine rx (xs_iload dm_Re_inst_89 rfl) ?_
          refine rx (rlv 3 (x0.2.2.length : Int) (by decide) dm_Re_inst_91 (by omega) (by show _ < ((30 : Nat) : Int); omega) (by rw [show (qb 6 0 - 1).toNat = M.1.length - 1 - 0 by omega]; exact y1)) ?_
          refine rx (xs_icmp_gt_f (tgt := 176) dm_Re_inst_92 rfl (by unfold ir; omega) (by unfold ir; omega) (by omega)) ?_
          refine rx (xs_aload_n dm_Re_inst_95 rfl) ?_
          refine rx (rg (v := .inl (qb 6 5)) dm_Re_inst_96 lf_Re_28 rfl) ?_
          refine rx (xs_istore dm_Re_inst_99 (by decide)) ?_
          show rX E _ 101 [some (.inr (some E.1.length)), some (.inl ((160 * (M.1.length - 1 - 2) : Nat) : Int)), some (.inl (((160 * (M.1.length - 1 - 2) : Nat) : Int) + (x2.2.1.length : Int))), some (.inl 5200), some (.inl ((qb 6 0) - 1)), some (.inl 0), some (.inl (qb 6 5)), none] [] _ _
          refine rx (xs_iload dm_Re_inst_101 rfl) ?_
          refine rx (xs_iload dm_Re_inst_103 rfl) ?_
          refine rcS (as := [.inl ((qb 6 0) - 1), .inl 0]) (rest := []) dm_Re_inst_105 lc_Re_base lm_Re_54 li_Re_base (nr rfl rfl) rfl rfl (nl rfl) (re_base _ _) ?_
          show rX E _ 108 [some (.inr (some E.1.length)), some (.inl ((160 * (M.1.length - 1 - 2) : Nat) : Int)), some (.inl (((160 * (M.1.length - 1 - 2) : Nat) : Int) + (x2.2.1.length : Int))), some (.inl 5200), some (.inl ((qb 6 0) - 1)), some (.inl 0), some (.inl (qb 6 5)), none] [.inl (160 * (qb 6 0 - 1) + 40 * 0)] _ _
          refine rx (xs_istore dm_Re_inst_108 (by decide)) ?_
          show rX E _ 110 [some (.inr (some E.1.length)), some (.inl ((160 * (M.1.length - 1 - 2) : Nat) : Int)), some (.inl (((160 * (M.1.length - 1 - 2) : Nat) : Int) + (x2.2.1.length : Int))), some (.inl 5200), some (.inl ((qb 6 0) - 1)), some (.inl 0), some (.inl (qb 6 5)), some (.inl (160 * (qb 6 0 - 1) + 40 * 0))] [] _ _
          refine rx (xs_aload_n dm_Re_inst_110 rfl) ?_
          refine rx (xs_iload dm_Re_inst_111 rfl) ?_
          refine rx (xs_iload dm_Re_inst_113 rfl) ?_
          refine rx (xs_aload_n dm_Re_inst_115 rfl) ?_
          refine rx (rg (v := .inr (some (rA E 1))) dm_Re_inst_116 lf_Re_13 rfl) ?_
          refine rx (xs_iconst dm_Re_inst_119) ?_
          refine rx (xs_iload dm_Re_inst_120 rfl) ?_
          refine rx (xs_imul dm_Re_inst_122) ?_
          refine rx (xs_iload dm_Re_inst_123 rfl) ?_
          refine rx (xs_iadd dm_Re_inst_125) ?_
          refine rx (rlv 1 (x0.2.1.length : Int) (by decide) dm_Re_inst_126 (by omega) (by show _ < ((120 : Nat) : Int); omega) (by rw [show (4 * (qb 6 0 - 1) + 0).toNat = 4 * (M.1.length - 1 - 0) by omega, fq 1 _ (by unfold tch; omega) (by omega) (by omega) (by omega)]; exact wa0)) ?_
          refine rx (xs_iadd dm_Re_inst_127) ?_
          refine rx (xs_iload_n dm_Re_inst_128 rfl) ?_
          refine rx (xs_iload_n dm_Re_inst_129 rfl) ?_
          refine rx (xs_aload_n dm_Re_inst_130 rfl) ?_
          refine rx (xs_iconst dm_Re_inst_131) ?_
          refine rcV (as := [.inl 1]) (rest := [.inl (((160 * (M.1.length - 1 - 2) : Nat) : Int) + (x2.2.1.length : Int)), .inl ((160 * (M.1.length - 1 - 2) : Nat) : Int), .inl ((160 * (qb 6 0 - 1) + 40 * 0) + (x0.2.1.length : Int)), .inl (160 * (qb 6 0 - 1) + 40 * 0), .inr (some E.1.length)]) dm_Re_inst_132 lc_Re_rowOf lm_Re_94 li_Re_rowOf (nr rfl rfl) rfl rfl rfl (nl rfl) (re_rowOf' Rb rfl hx1) ?_
          rintro _ q1 ⟨rfl, hq1⟩
          have hq1 := hq1.symm
          subst hq1
          show rX E _ 135 [some (.inr (some E.1.length)), some (.inl ((160 * (M.1.length - 1 - 2) : Nat) : Int)), some (.inl (((160 * (M.1.length - 1 - 2) : Nat) : Int) + (x2.2.1.length : Int))), some (.inl 5200), some (.inl ((qb 6 0) - 1)), some (.inl 0), some (.inl (qb 6 5)), some (.inl (160 * (qb 6 0 - 1) + 40 * 0))] [.inl ((160 * (M.1.length - 1 - 1) : Nat) : Int), .inl (((160 * (M.1.length - 1 - 2) : Nat) : Int) + (x2.2.1.length : Int)), .inl ((160 * (M.1.length - 1 - 2) : Nat) : Int), .inl ((160 * (qb 6 0 - 1) + 40 * 0) + (x0.2.1.length : Int)), .inl (160 * (qb 6 0 - 1) + 40 * 0), .inr (some E.1.length)] _ _
          refine rx (xs_aload_n dm_Re_inst_135 rfl) ?_
          refine rx (xs_iconst dm_Re_inst_136) ?_
          refine rcV (as := [.inl 1]) (rest := [.inl ((160 * (M.1.length - 1 - 1) : Nat) : Int), .inl (((160 * (M.1.length - 1 - 2) : Nat) : Int) + (x2.2.1.length : Int)), .inl ((160 * (M.1.length - 1 - 2) : Nat) : Int), .inl ((160 * (qb 6 0 - 1) + 40 * 0) + (x0.2.1.length : Int)), .inl (160 * (qb 6 0 - 1) + 40 * 0), .inr (some E.1.length)]) dm_Re_inst_137 lc_Re_rowEnd lm_Re_97 li_Re_rowEnd (nr rfl rfl) rfl rfl rfl (nl rfl) (re_rowEnd' hg Rb rfl hx1) ?_
          rintro _ q1 ⟨rfl, hq1⟩
          have hq1 := hq1.symm
          subst hq1
          show rX E _ 140 [some (.inr (some E.1.length)), some (.inl ((160 * (M.1.length - 1 - 2) : Nat) : Int)), some (.inl (((160 * (M.1.length - 1 - 2) : Nat) : Int) + (x2.2.1.length : Int))), some (.inl 5200), some (.inl ((qb 6 0) - 1)), some (.inl 0), some (.inl (qb 6 5)), some (.inl (160 * (qb 6 0 - 1) + 40 * 0))] [.inl (((160 * (M.1.length - 1 - 1) : Nat) : Int) + (x1.2.1.length : Int)), .inl ((160 * (M.1.length - 1 - 1) : Nat) : Int), .inl (((160 * (M.1.length - 1 - 2) : Nat) : Int) + (x2.2.1.length : Int)), .inl ((160 * (M.1.length - 1 - 2) : Nat) : Int), .inl ((160 * (qb 6 0 - 1) + 40 * 0) + (x0.2.1.length : Int)), .inl (160 * (qb 6 0 - 1) + 40 * 0), .inr (some E.1.length)] _ _
          refine rcV (as := [.inl (160 * (qb 6 0 - 1) + 40 * 0), .inl ((160 * (qb 6 0 - 1) + 40 * 0) + (x0.2.1.length : Int)), .inl ((160 * (M.1.length - 1 - 2) : Nat) : Int), .inl (((160 * (M.1.length - 1 - 2) : Nat) : Int) + (x2.2.1.length : Int)), .inl ((160 * (M.1.length - 1 - 1) : Nat) : Int), .inl (((160 * (M.1.length - 1 - 1) : Nat) : Int) + (x1.2.1.length : Int))]) (rest := []) dm_Re_inst_140 lc_Re_replaced lm_Re_175 li_Re_replaced (nr rfl rfl) rfl rfl rfl (nl rfl) (re_replaced (pt := 160 * (M.1.length - 1 - 0)) (pv := 160 * (M.1.length - 1 - 2)) (pu := 160 * (M.1.length - 1 - 1)) (c := c) (n := n) (u := x1.2.1) (frM_sg fq wb0 (by omega)) (by rw [← hvw]; exact frM_sg fq wb2 (by omega)) (frM_sg fq wb1 (by omega)) ht0 tc hn (by omega) (by omega) (by omega) (by omega) (by omega) (by omega) (by omega) (by omega) (by omega) (by omega) (by omega)) ?_
          rintro _ _ ⟨rfl, rfl⟩
          show rX E _ 143 [some (.inr (some E.1.length)), some (.inl ((160 * (M.1.length - 1 - 2) : Nat) : Int)), some (.inl (((160 * (M.1.length - 1 - 2) : Nat) : Int) + (x2.2.1.length : Int))), some (.inl 5200), some (.inl ((qb 6 0) - 1)), some (.inl 0), some (.inl (qb 6 5)), some (.inl (160 * (qb 6 0 - 1) + 40 * 0))] [] _ _
          refine rx (xs_iload dm_Re_inst_143 rfl) ?_
          refine rx (xs_if_ne_f (tgt := 158) dm_Re_inst_145 rfl (by unfold ir; omega) (by decide)) ?_
          generalize rplC (vw n c) x1.2.1 x0.2.1 0 = l at fl ⊢
          show rX E _ 148 [some (.inr (some E.1.length)), some (.inl ((160 * (M.1.length - 1 - 2) : Nat) : Int)), some (.inl (((160 * (M.1.length - 1 - 2) : Nat) : Int) + (x2.2.1.length : Int))), some (.inl 5200), some (.inl ((qb 6 0) - 1)), some (.inl 0), some (.inl (qb 6 5)), some (.inl (160 * (qb 6 0 - 1) + 40 * 0))] [] _ _
          refine rx (xs_aload_n dm_Re_inst_148 rfl) ?_
          refine rx (xs_iconst dm_Re_inst_149) ?_
          refine rx (xs_iload dm_Re_inst_150 rfl) ?_
          have key := pa_B (q := emL qb l) (s := s) (l := l) (k := 2) (x := ([], false)) (emL_sg (by omega) b5) (by rw [emL_a (by omega) (by omega)]; exact k28) ⟨emL_h (by omega) h28, by rw [emL_s (by omega)]; exact g28⟩ (lok_emL lkb)
          simp only [Bool.or_false] at key
          have fp : frM q (paF (emL qb l) s l.length) := frM_tr fq (frM_tr (frM_emL (by omega)) (frM_part (by decide)))
          refine rcV (as := [.inl 0, .inl (qb 6 5)]) (rest := []) dm_Re_inst_152 lc_Re_part lm_Re_66 li_Re_part (nr rfl rfl) rfl rfl rfl (nl rfl) (re_pa (s := s) (n := l.length) b5 (by rw [emL_out, b5]) (by omega) (by omega)) ?_
          rintro _ _ ⟨rfl, rfl⟩
          show rX E _ 155 [some (.inr (some E.1.length)), some (.inl ((160 * (M.1.length - 1 - 2) : Nat) : Int)), some (.inl (((160 * (M.1.length - 1 - 2) : Nat) : Int) + (x2.2.1.length : Int))), some (.inl 5200), some (.inl ((qb 6 0) - 1)), some (.inl 0), some (.inl (qb 6 5)), some (.inl (160 * (qb 6 0 - 1) + 40 * 0))] [] _ _
          refine rx (xs_goto (tgt := 164) dm_Re_inst_155 rfl) ?_
          refine rx (xs_aload_n dm_Re_inst_164 rfl) ?_
          refine rx (xs_iload dm_Re_inst_165 rfl) ?_
          refine rx (rp 5 (by decide) dm_Re_inst_167 lp_Re_28 (x_ft_i _)) ?_
          refine rx (xs_iinc dm_Re_inst_170 rfl (by decide)) ?_
          show rX E _ 173 [some (.inr (some E.1.length)), some (.inl ((160 * (M.1.length - 1 - 2) : Nat) : Int)), some (.inl (((160 * (M.1.length - 1 - 2) : Nat) : Int) + (x2.2.1.length : Int))), some (.inl 5200), some (.inl ((qb 6 0) - 1)), some (.inl (0 + 1)), some (.inl (qb 6 5)), some (.inl (160 * (qb 6 0 - 1) + 40 * 0))] [] _ _
          refine rx (xs_goto (tgt := 83) dm_Re_inst_173 rfl) ?_
          exact re_inst_l (x1 := x1) (x2 := x2) (n := n) (c := c) hx1 hx2 hvw tc hn rfl rfl E hg hR hx0 (ka0.symm.trans hk0) (by omega) hs5 hs6 (x0.2.2.length + 1) 0 _ _ ([], decide (40 < l.length)) _ _ (by omega) (by omega) (by omega) (frM_tr fp (frM_u6 (by omega))) (by rw [u3_eq]; exact b5) (lok_u6 key.2.1) ⟨hyR_fr key.2.2.1 (fun a k ht => u3_ne (by unfold tch at ht; omega)), by rw [u3_ne (by omega)]; exact key.2.2.2⟩ (by simp) (fun hh => ⟨_, rOb_fr (key.1 (by simp only [decide_eq_false_iff_not] at hh; omega)) (fun a k ht => u3_ne (by unfold tch at ht; omega))⟩)
        · rw [if_neg hca]
          refine rx (xs_if_ne_f (tgt := 72) dm_Re_inst_67 rfl (by unfold ir; omega) (by decide)) ?_
          refine rx (xs_iconst dm_Re_inst_70) ?_
          exact rri dm_Re_inst_71 rfl ⟨vi (by rw [hst0, ifc_f hca]), by rw [hst0, ifc_f hca]; exact Rb⟩
      · change rX E _ 26 _ _ _ _
        refine rx (xs_iconst dm_Re_inst_26) ?_
        exact rri dm_Re_inst_27 rfl ⟨vi (by rw [st_inst, ifc_f (fun h => hc2 h.2.2)]), by rw [st_inst, ifc_f (fun h => hc2 h.2.2)]; exact hR⟩
  · show rX E _ 0 [some (.inr (some E.1.length)), none, none, none, none, none, none, none] [] _ _
    refine rx (xs_aload_n dm_Re_inst_0 rfl) ?_
    refine rx (xs_iconst dm_Re_inst_1) ?_
    refine rcV (as := [.inl 2]) (rest := []) dm_Re_inst_2 lc_Re_variable lm_Re_126 li_Re_variable (nr rfl rfl) rfl rfl rfl (nl rfl) (re_variable' (i := 2) (R := 0) hg hR rfl (by decide) (fun h => absurd h hv) (fun _ => rfl)) ?_
    rintro _ q1 ⟨rfl, hq1⟩
    have hq1 := hq1.symm
    subst hq1
    show rX E _ 5 [some (.inr (some E.1.length)), none, none, none, none, none, none, none] [.inl 0] _ _
    refine rx (xs_if_eq_t (tgt := 26) dm_Re_inst_5 rfl (by unfold ir; omega) (by decide)) ?_
    refine rx (xs_iconst dm_Re_inst_26) ?_
    exact rri dm_Re_inst_27 rfl ⟨vi (by rw [st_inst, ifc_f (fun h => hv h.1)]), by rw [st_inst, ifc_f (fun h => hv h.1)]; exact hR⟩
set_option maxHeartbeats 4000000 in
set_option maxRecDepth 100000 in
theorem re_instType {q : rS} {M : mS} {c : Int} (hg : gM M) (hR : Rl q M) (hc0 : ir c) : rM mm_Re_instType [.inl c] q (fun r q' => r = some (.inl (st_instT M c).1) ∧ Rl q' (st_instT M c).2) := by
  refine rm rfl (nl rfl) (fun E => ?_)
  have g6 := hg.2.2.2.2.2.1
  have g7 := hg.2.2.2.2.2.2.1
  have g8 := hg.2.2.2.2.2.2.2.1
  have g9 := hg.2.2.2.2.2.2.2.2.1
  have g10 := hg.2.2.2.2.2.2.2.2.2
  have r1 := hR.1
  have r4 : q 6 1 = (M.2.2.1.length : Int) := hR.2.2.2.1
  have r6 : q 6 2 = (M.2.2.2.1.length : Int) := hR.2.2.2.2.2.1
  have r8 : q 6 3 = (M.2.2.2.2.1.length : Int) := hR.2.2.2.2.2.2.2.1
  have r10 : q 6 4 = (M.2.2.2.2.2 : Int) := hR.2.2.2.2.2.2.2.2.2.1
  have hlk := hR.2.2.2.2.2.2.2.2.2.2
  have i0 := (kd_ir hg 0).1
  have i1 := (kd_ir hg 1).1
  show rX E _ 0 [some (.inr (some E.1.length)), some (.inl c), none, none, none, none] [] _ _
  refine rx (xs_aload_n dm_Re_instType_0 rfl) ?_
  refine rx (xs_iconst dm_Re_instType_1) ?_
  refine rcV (as := [.inl 1]) (rest := []) dm_Re_instType_2 lc_Re_top lm_Re_85 li_Re_top (nr rfl rfl) rfl rfl rfl (nl rfl) (re_top' (i := 1) hg hR rfl (by decide)) ?_
  rintro _ q1 ⟨rfl, hq1⟩
  have hq1 := hq1.symm
  subst hq1
  show rX E _ 5 [some (.inr (some E.1.length)), some (.inl c), none, none, none, none] [.inl (kd M 1)] _ _
  refine xx_if_ne (tgt := 17) dm_Re_instType_5 rfl i1 (fun hc => ?_) (fun hc => ?_)
  · change rX E _ 17 _ _ _ _
    refine rx (xs_iconst dm_Re_instType_17) ?_
    exact rri dm_Re_instType_18 rfl ⟨vi (by rw [st_instT, if_pos (fun h => hc h.1)]), by rw [st_instT, if_pos (fun h => hc h.1)]; exact hR⟩
  · change rX E _ 8 _ _ _ _
    refine rx (xs_aload_n dm_Re_instType_8 rfl) ?_
    refine rx (xs_iconst dm_Re_instType_9) ?_
    refine rcV (as := [.inl 0]) (rest := []) dm_Re_instType_10 lc_Re_top lm_Re_85 li_Re_top (nr rfl rfl) rfl rfl rfl (nl rfl) (re_top' (i := 0) hg hR rfl (by decide)) ?_
    rintro _ q1 ⟨rfl, hq1⟩
    have hq1 := hq1.symm
    subst hq1
    show rX E _ 13 [some (.inr (some E.1.length)), some (.inl c), none, none, none, none] [.inl (kd M 0)] _ _
    refine rx (xs_iconst dm_Re_instType_13) ?_
    refine xx_icmp_eq (tgt := 19) dm_Re_instType_14 rfl i0 (by unfold ir; omega) (fun hc2 => ?_) (fun hc2 => ?_)
    · change rX E _ 19 _ _ _ _
      have hk1 : kd M 1 = 0 := by omega
      have hk0 := hc2
      refine rx (xs_iload_n dm_Re_instType_19 rfl) ?_
      refine xx_if_lt (tgt := 28) dm_Re_instType_20 rfl hc0 (fun hc3 => ?_) (fun hc3 => ?_)
      · change rX E _ 28 _ _ _ _
        refine rx (xs_iconst dm_Re_instType_28) ?_
        exact rri dm_Re_instType_29 rfl ⟨vi (by rw [st_instT, if_neg (fun h => h ⟨hk1, hk0⟩), if_pos (Or.inl hc3)]), by rw [st_instT, if_neg (fun h => h ⟨hk1, hk0⟩), if_pos (Or.inl hc3)]; exact hR⟩
      · change rX E _ 23 _ _ _ _
        refine rx (xs_iload_n dm_Re_instType_23 rfl) ?_
        refine rx (xs_iconst dm_Re_instType_24) ?_
        refine xx_icmp_le (tgt := 30) dm_Re_instType_25 rfl hc0 (by unfold ir; omega) (fun hc4 => ?_) (fun hc4 => ?_)
        · change rX E _ 30 _ _ _ _
          obtain ⟨x0, hx0, ka0, kb0, kc0⟩ := kd_some (M := M) (i := 0) (by rw [hk0]; decide)
          obtain ⟨wa0, wb0, wc0⟩ := Rl_row hR hx0
          have hlt0 := (List.getElem?_eq_some_iff.mp hx0).1
          have gx0 := gM_top hg hx0
          obtain ⟨x1, hx1, ka1, kb1, kc1⟩ := kd_some (M := M) (i := 1) (by rw [hk1]; decide)
          obtain ⟨wa1, wb1, wc1⟩ := Rl_row hR hx1
          have hlt1 := (List.getElem?_eq_some_iff.mp hx1).1
          have gx1 := gM_top hg hx1
          obtain ⟨ht0, hl0, hn0, hs0, hh0⟩ := gO_2 gx0 (ka0.symm.trans hk0)
          obtain ⟨ty1, hl1, -⟩ := gO_0 gx1 (ka1.symm.trans hk1)
          have hK : 0 ≤ c ∧ c ≤ 3 := by omega
          have hst0 : st_instT M c = fi M 2 (2, rtC c x1.2.1 x0.2.1 0, (hfo (fun h => rtC c x1.2.1 h 0) ([], decide (40 < (rtC c x1.2.1 x0.2.1 0).length)) x0.2.2).1) (hfo (fun h => rtC c x1.2.1 h 0) ([], decide (40 < (rtC c x1.2.1 x0.2.1 0).length)) x0.2.2).2 := by rw [st_instT, if_neg (fun h => h ⟨hk1, hk0⟩), if_neg (by omega), kb0, kb1, kc0]
          rw [hst0]
          refine rx (xs_aload_n dm_Re_instType_30 rfl) ?_
          refine rcV (as := []) (rest := []) dm_Re_instType_31 lc_Re_begin lm_Re_88 li_Re_begin (nr rfl rfl) rfl rfl rfl (nl rfl) (re_begin) ?_
          rintro _ _ ⟨rfl, rfl⟩
          show rX E _ 34 [some (.inr (some E.1.length)), some (.inl c), none, none, none, none] [] _ _
          have b5' := bg_5 q
          obtain ⟨s, hs⟩ : ∃ s : Nat, s = 5200 := ⟨_, rfl⟩
          have fb := frM_bg q
          have lkb := lok_bg hlk
          have Rb := Rl_fr hg hR fb lkb
          have k28 := bg_2 q
          have h28 := hy0 (bg_3 q)
          have g28 := bg_6 q
          generalize bg q = qb at b5' fb lkb Rb k28 h28 g28 ⊢
          have b5 : qb 6 5 = (s : Int) := by omega
          have hs5 : 5200 ≤ s := by omega
          have hs6 : s ≤ 8000 := by omega
          show rX E _ 34 [some (.inr (some E.1.length)), some (.inl c), none, none, none, none] [] _ _
          refine rx (xs_aload_n dm_Re_instType_34 rfl) ?_
          refine rx (rg (v := .inl (qb 6 0)) dm_Re_instType_35 lf_Re_79 rfl) ?_
          refine rx (xs_iconst dm_Re_instType_38) ?_
          refine rx (xs_isub dm_Re_instType_39) ?_
          refine rx (xs_istore_n dm_Re_instType_40 (by decide)) ?_
          show rX E _ 41 [some (.inr (some E.1.length)), some (.inl c), some (.inl ((qb 6 0) - 1)), none, none, none] [] _ _
          refine rx (xs_iconst dm_Re_instType_41) ?_
          refine rx (xs_istore_n dm_Re_instType_42 (by decide)) ?_
          show rX E _ 43 [some (.inr (some E.1.length)), some (.inl c), some (.inl ((qb 6 0) - 1)), some (.inl 0), none, none] [] _ _
          have y1 := (Rb.2.1 0 x0 hx0).2.2.1
          have fl := rt_len (K := c) (T := x1.2.1) (by omega) x0.2.1 0
          have fq := fb
          have z0 : qb 6 0 = (M.1.length : Int) := Rb.1
          refine rx (xs_iload_n dm_Re_instType_43 rfl) ?_
          refine rx (xs_aload_n dm_Re_instType_44 rfl) ?_
          refine rx (rg (v := .inr (some (rA E 3))) dm_Re_instType_45 lf_Re_19 rfl) ?_
          refine rx (xs_iload_n dm_Re_instType_48 rfl) ?_
          refine rx (rlv 3 (x0.2.2.length : Int) (by decide) dm_Re_instType_49 (by omega) (by show _ < ((30 : Nat) : Int); omega) (by rw [show (qb 6 0 - 1).toNat = M.1.length - 1 - 0 by omega]; exact y1)) ?_
          refine rx (xs_icmp_gt_f (tgt := 130) dm_Re_instType_50 rfl (by unfold ir; omega) (by unfold ir; omega) (by omega)) ?_
          refine rx (xs_aload_n dm_Re_instType_53 rfl) ?_
          refine rx (rg (v := .inl (qb 6 5)) dm_Re_instType_54 lf_Re_28 rfl) ?_
          refine rx (xs_istore dm_Re_instType_57 (by decide)) ?_
          show rX E _ 59 [some (.inr (some E.1.length)), some (.inl c), some (.inl ((qb 6 0) - 1)), some (.inl 0), some (.inl (qb 6 5)), none] [] _ _
          refine rx (xs_iload_n dm_Re_instType_59 rfl) ?_
          refine rx (xs_iload_n dm_Re_instType_60 rfl) ?_
          refine rcS (as := [.inl ((qb 6 0) - 1), .inl 0]) (rest := []) dm_Re_instType_61 lc_Re_base lm_Re_54 li_Re_base (nr rfl rfl) rfl rfl (nl rfl) (re_base _ _) ?_
          show rX E _ 64 [some (.inr (some E.1.length)), some (.inl c), some (.inl ((qb 6 0) - 1)), some (.inl 0), some (.inl (qb 6 5)), none] [.inl (160 * (qb 6 0 - 1) + 40 * 0)] _ _
          refine rx (xs_istore dm_Re_instType_64 (by decide)) ?_
          show rX E _ 66 [some (.inr (some E.1.length)), some (.inl c), some (.inl ((qb 6 0) - 1)), some (.inl 0), some (.inl (qb 6 5)), some (.inl (160 * (qb 6 0 - 1) + 40 * 0))] [] _ _
          refine rx (xs_aload_n dm_Re_instType_66 rfl) ?_
          refine rx (xs_iload dm_Re_instType_67 rfl) ?_
          refine rx (xs_iload dm_Re_instType_69 rfl) ?_
          refine rx (xs_aload_n dm_Re_instType_71 rfl) ?_
          refine rx (rg (v := .inr (some (rA E 1))) dm_Re_instType_72 lf_Re_13 rfl) ?_
          refine rx (xs_iconst dm_Re_instType_75) ?_
          refine rx (xs_iload_n dm_Re_instType_76 rfl) ?_
          refine rx (xs_imul dm_Re_instType_77) ?_
          refine rx (xs_iload_n dm_Re_instType_78 rfl) ?_
          refine rx (xs_iadd dm_Re_instType_79) ?_
          refine rx (rlv 1 (x0.2.1.length : Int) (by decide) dm_Re_instType_80 (by omega) (by show _ < ((120 : Nat) : Int); omega) (by rw [show (4 * (qb 6 0 - 1) + 0).toNat = 4 * (M.1.length - 1 - 0) by omega, fq 1 _ (by unfold tch; omega) (by omega) (by omega) (by omega)]; exact wa0)) ?_
          refine rx (xs_iadd dm_Re_instType_81) ?_
          refine rx (xs_iconst dm_Re_instType_82) ?_
          refine rx (xs_iload_n dm_Re_instType_83 rfl) ?_
          refine rx (xs_iadd dm_Re_instType_84) ?_
          refine rx (xs_aload_n dm_Re_instType_85 rfl) ?_
          refine rx (xs_iconst dm_Re_instType_86) ?_
          refine rcV (as := [.inl 1]) (rest := [.inl (2 + c), .inl ((160 * (qb 6 0 - 1) + 40 * 0) + (x0.2.1.length : Int)), .inl (160 * (qb 6 0 - 1) + 40 * 0), .inr (some E.1.length)]) dm_Re_instType_87 lc_Re_rowOf lm_Re_94 li_Re_rowOf (nr rfl rfl) rfl rfl rfl (nl rfl) (re_rowOf' Rb rfl hx1) ?_
          rintro _ q1 ⟨rfl, hq1⟩
          have hq1 := hq1.symm
          subst hq1
          show rX E _ 90 [some (.inr (some E.1.length)), some (.inl c), some (.inl ((qb 6 0) - 1)), some (.inl 0), some (.inl (qb 6 5)), some (.inl (160 * (qb 6 0 - 1) + 40 * 0))] [.inl ((160 * (M.1.length - 1 - 1) : Nat) : Int), .inl (2 + c), .inl ((160 * (qb 6 0 - 1) + 40 * 0) + (x0.2.1.length : Int)), .inl (160 * (qb 6 0 - 1) + 40 * 0), .inr (some E.1.length)] _ _
          refine rx (xs_aload_n dm_Re_instType_90 rfl) ?_
          refine rx (xs_iconst dm_Re_instType_91) ?_
          refine rcV (as := [.inl 1]) (rest := [.inl ((160 * (M.1.length - 1 - 1) : Nat) : Int), .inl (2 + c), .inl ((160 * (qb 6 0 - 1) + 40 * 0) + (x0.2.1.length : Int)), .inl (160 * (qb 6 0 - 1) + 40 * 0), .inr (some E.1.length)]) dm_Re_instType_92 lc_Re_rowEnd lm_Re_97 li_Re_rowEnd (nr rfl rfl) rfl rfl rfl (nl rfl) (re_rowEnd' hg Rb rfl hx1) ?_
          rintro _ q1 ⟨rfl, hq1⟩
          have hq1 := hq1.symm
          subst hq1
          show rX E _ 95 [some (.inr (some E.1.length)), some (.inl c), some (.inl ((qb 6 0) - 1)), some (.inl 0), some (.inl (qb 6 5)), some (.inl (160 * (qb 6 0 - 1) + 40 * 0))] [.inl (((160 * (M.1.length - 1 - 1) : Nat) : Int) + (x1.2.1.length : Int)), .inl ((160 * (M.1.length - 1 - 1) : Nat) : Int), .inl (2 + c), .inl ((160 * (qb 6 0 - 1) + 40 * 0) + (x0.2.1.length : Int)), .inl (160 * (qb 6 0 - 1) + 40 * 0), .inr (some E.1.length)] _ _
          refine rcV (as := [.inl (160 * (qb 6 0 - 1) + 40 * 0), .inl ((160 * (qb 6 0 - 1) + 40 * 0) + (x0.2.1.length : Int)), .inl (2 + c), .inl ((160 * (M.1.length - 1 - 1) : Nat) : Int), .inl (((160 * (M.1.length - 1 - 1) : Nat) : Int) + (x1.2.1.length : Int))]) (rest := []) dm_Re_instType_95 lc_Re_retyped lm_Re_179 li_Re_retyped (nr rfl rfl) rfl rfl rfl (nl rfl) (re_retyped' (pt := 160 * (M.1.length - 1 - 0)) (pu := 160 * (M.1.length - 1 - 1)) (K := c) (T := x1.2.1) (frM_sg fq wb0 (by omega)) (frM_sg fq wb1 (by omega)) ht0 (by omega) hK (by omega) (by omega) (by omega) (by omega) (by omega) (by omega) (by omega) (by omega) (by omega)) ?_
          rintro _ _ ⟨rfl, rfl⟩
          show rX E _ 98 [some (.inr (some E.1.length)), some (.inl c), some (.inl ((qb 6 0) - 1)), some (.inl 0), some (.inl (qb 6 5)), some (.inl (160 * (qb 6 0 - 1) + 40 * 0))] [] _ _
          refine rx (xs_iload_n dm_Re_instType_98 rfl) ?_
          refine rx (xs_if_ne_f (tgt := 112) dm_Re_instType_99 rfl (by unfold ir; omega) (by decide)) ?_
          generalize rtC c x1.2.1 x0.2.1 0 = l at fl ⊢
          show rX E _ 102 [some (.inr (some E.1.length)), some (.inl c), some (.inl ((qb 6 0) - 1)), some (.inl 0), some (.inl (qb 6 5)), some (.inl (160 * (qb 6 0 - 1) + 40 * 0))] [] _ _
          refine rx (xs_aload_n dm_Re_instType_102 rfl) ?_
          refine rx (xs_iconst dm_Re_instType_103) ?_
          refine rx (xs_iload dm_Re_instType_104 rfl) ?_
          have key := pa_B (q := emL qb l) (s := s) (l := l) (k := 2) (x := ([], false)) (emL_sg (by omega) b5) (by rw [emL_a (by omega) (by omega)]; exact k28) ⟨emL_h (by omega) h28, by rw [emL_s (by omega)]; exact g28⟩ (lok_emL lkb)
          simp only [Bool.or_false] at key
          have fp : frM q (paF (emL qb l) s l.length) := frM_tr fq (frM_tr (frM_emL (by omega)) (frM_part (by decide)))
          refine rcV (as := [.inl 0, .inl (qb 6 5)]) (rest := []) dm_Re_instType_106 lc_Re_part lm_Re_66 li_Re_part (nr rfl rfl) rfl rfl rfl (nl rfl) (re_pa (s := s) (n := l.length) b5 (by rw [emL_out, b5]) (by omega) (by omega)) ?_
          rintro _ _ ⟨rfl, rfl⟩
          show rX E _ 109 [some (.inr (some E.1.length)), some (.inl c), some (.inl ((qb 6 0) - 1)), some (.inl 0), some (.inl (qb 6 5)), some (.inl (160 * (qb 6 0 - 1) + 40 * 0))] [] _ _
          refine rx (xs_goto (tgt := 118) dm_Re_instType_109 rfl) ?_
          refine rx (xs_aload_n dm_Re_instType_118 rfl) ?_
          refine rx (xs_iload dm_Re_instType_119 rfl) ?_
          refine rx (rp 5 (by decide) dm_Re_instType_121 lp_Re_28 (x_ft_i _)) ?_
          refine rx (xs_iinc dm_Re_instType_124 rfl (by decide)) ?_
          show rX E _ 127 [some (.inr (some E.1.length)), some (.inl c), some (.inl ((qb 6 0) - 1)), some (.inl (0 + 1)), some (.inl (qb 6 5)), some (.inl (160 * (qb 6 0 - 1) + 40 * 0))] [] _ _
          refine rx (xs_goto (tgt := 43) dm_Re_instType_127 rfl) ?_
          exact re_instType_l (x1 := x1) hx1 hK E hg hR hx0 (ka0.symm.trans hk0) (by omega) hs5 hs6 (x0.2.2.length + 1) 0 _ _ ([], decide (40 < l.length)) _ _ (by omega) (by omega) (by omega) (frM_tr fp (frM_u6 (by omega))) (by rw [u3_eq]; exact b5) (lok_u6 key.2.1) ⟨hyR_fr key.2.2.1 (fun a k ht => u3_ne (by unfold tch at ht; omega)), by rw [u3_ne (by omega)]; exact key.2.2.2⟩ (by simp) (fun hh => ⟨_, rOb_fr (key.1 (by simp only [decide_eq_false_iff_not] at hh; omega)) (fun a k ht => u3_ne (by unfold tch at ht; omega))⟩)
        · change rX E _ 28 _ _ _ _
          refine rx (xs_iconst dm_Re_instType_28) ?_
          exact rri dm_Re_instType_29 rfl ⟨vi (by rw [st_instT, if_neg (fun h => h ⟨hk1, hk0⟩), if_pos (Or.inr (by omega))]), by rw [st_instT, if_neg (fun h => h ⟨hk1, hk0⟩), if_pos (Or.inr (by omega))]; exact hR⟩
    · change rX E _ 17 _ _ _ _
      refine rx (xs_iconst dm_Re_instType_17) ?_
      exact rri dm_Re_instType_18 rfl ⟨vi (by rw [st_instT, if_pos (fun h => hc2 h.2)]), by rw [st_instT, if_pos (fun h => hc2 h.2)]; exact hR⟩
