/-! join, absThm -/
theorem app_tk (l v : List Int) (a r : List Int) : (eqn a ((12 :: (l ++ v)).take 81) r).take 81 = (eqn a (12 :: (l ++ v)) r).take 81 := eqn_tk1 _ _ _
theorem hR_or {l : List Int} {x : List (List Int) × Bool} {y : List (List Int)} (h : hR false x y) : hR (decide (40 < l.length)) (x.1, decide (40 < l.length) || x.2) y := by
  rcases h with ⟨h1, h2, h3⟩ | ⟨h1, h2⟩
  · exact Or.inl ⟨by show (decide (40 < l.length) || x.2) = _; rw [h1, Bool.or_false], h2, h3⟩
  · exact Or.inr ⟨by show (decide (40 < l.length) || x.2) = _; rw [h1, Bool.or_true], h2⟩
theorem eqP_len {t a l r : List Int} (h : eqP t a l r) : t.length = 4 + a.length + l.length + r.length := by
  rw [h.1]
  simp [eqn]
  omega
theorem eqx_p {t ty : List Int} (ht : isTm [] t ty) (h : isE t) : eqP t (eqx t).1 (eqx t).2.1 (eqx t).2.2 := by
  obtain ⟨-, a, l, r, hq⟩ := eqP_of ht h
  rw [eqx_of hq]
  exact hq
theorem gH_g {x : oB} (h : gO x) (k : x.1 = 2) : gH x.2.2 := by
  obtain ⟨a, b, c, d, e⟩ := gO_2 h k
  exact ⟨c, d, e⟩
set_option maxHeartbeats 4000000 in
set_option maxRecDepth 100000 in
theorem ma_follow {h : xH} {M : mS} {a1 a0 : Nat} {x1 x0 : oB} (hg : gM M) (hm : cM h M) (hx1 : M.1[1]? = some x1) (hx0 : M.1[0]? = some x0) (i1 : itA h a1 x1) (i0 : itA h a0 x0) (k1 : x1.1 = 2) (k0 : x0.1 = 2) : x_Mx mm_Ma_followEquation [.inr (some 0), .inr (some a1), .inr (some a0)] h (clP 250 1500 h (st_eqmp M)) := by
  refine xmx rfl (nl rfl) ?_
  have hm0 := hm
  have m1 := hm.1
  have G := gr_rf pS h
  show x_X _ 0 [some (.inr (some 0)), some (.inr (some a1)), some (.inr (some a0)), none] [] _ _
  have g6 := hg.2.2.2.2.2.1
  have i1_0 := i1
  obtain ⟨ka1, kb1, kc1⟩ := kd_of hx1
  have hl1 := (List.getElem?_eq_some_iff.mp hx1).1
  have gx1 := gM_top hg hx1
  obtain ⟨t1, l1, n1, s1, hh1⟩ := gO_2 gx1 k1
  obtain ⟨gi1, mm1, y1, c1, w1, hy1⟩ := i1
  have i1 := i1_0
  have c1_0 := c1
  have w1_0 := w1
  have hy1_0 := hy1
  have i0_0 := i0
  obtain ⟨ka0, kb0, kc0⟩ := kd_of hx0
  have hl0 := (List.getElem?_eq_some_iff.mp hx0).1
  have gx0 := gM_top hg hx0
  obtain ⟨t0, l0, n0, s0, hh0⟩ := gO_2 gx0 k0
  obtain ⟨gi0, mm0, y0, c0, w0, hy0⟩ := i0
  have i0 := i0_0
  have c0_0 := c0
  have w0_0 := w0
  have hy0_0 := hy0
  refine xx (xs_aload_n dm_Ma_followEquation_0 rfl) ?_
  refine xx (xs_aload_n dm_Ma_followEquation_1 rfl) ?_
  refine xx (xs_getf dm_Ma_followEquation_2 lf_Ma_132 c1 rfl) ?_
  refine xcV (as := [.inr (some mm1)]) (rest := []) dm_Ma_followEquation_5 lc_Ma_equationIn lm_Ma_136 li_Ma_equationIn (nr rfl rfl) rfl rfl m1 rfl (nl rfl) (ma_eqIn hm w1 t1) ?_
  rintro r9 h1 (⟨Ea, ea, pa, qa, sa, e9, gea, eca, rpa, rqa, rsa, hmE, gEa⟩ | ⟨Ea, e9, hh9⟩)
  · subst e9
    have hm := hmE
    clear hmE
    have G := gr_tr G gEa (fun _ _ e => e) (Nat.le_refl _) (Nat.le_refl _)
    have i1 := itA_S i1_0 G
    have c1 := ce_S c1_0 G (by omega)
    have w1 := rwA_S w1_0 G
    have hy1 := hyA_S hy1_0 G
    have i0 := itA_S i0_0 G
    have c0 := ce_S c0_0 G (by omega)
    have w0 := rwA_S w0_0 G
    have hy0 := hyA_S hy0_0 G
    have m1 := hm.1
    show x_X _ 8 [some (.inr (some 0)), some (.inr (some a1)), some (.inr (some a0)), none] [.inr (some ea)] _ _
    have hq := eqx_p t1 Ea
    have hlen := eqP_len hq
    obtain ⟨P, eP⟩ : ∃ P, P = eqx x1.2.1 := ⟨_, rfl⟩
    rw [← eP] at hq hlen rpa rqa rsa
    have est : st_eqmp M = ifc (P.2.1 = x0.2.1) (fin9 M 2 (2, P.2.2, hfc (hfc [] x1.2.2) x0.2.2)) (2, M) := by
      unfold st_eqmp
      rw [kb1, kb0, kc1, kc0, ← eP]
      by_cases hc : P.2.1 = x0.2.1
      · rw [ifc_t ⟨Ea, hc⟩, ifc_t hc, ← fin9_fi (Or.inr rfl) (hR_brg0 (hR_brg0 (hR_0 _) hh1) hh0) (by omega), take_id (by omega)]
      · rw [ifc_f (fun e => hc e.2), ifc_f hc]
    rw [est]
    refine xx (xs_astore_n dm_Ma_followEquation_8 (by decide)) ?_
    show x_X _ 9 [some (.inr (some 0)), some (.inr (some a1)), some (.inr (some a0)), some (.inr (some ea))] [] _ _
    refine xx (xs_aload_n dm_Ma_followEquation_9 rfl) ?_
    refine xx (xs_ifnull_f dm_Ma_followEquation_10) ?_
    refine xx (xs_aload_n dm_Ma_followEquation_13 rfl) ?_
    refine xx (xs_getf dm_Ma_followEquation_14 lf_Ma_147 eca rfl) ?_
    refine xx (xs_aload_n dm_Ma_followEquation_17 rfl) ?_
    refine xx (xs_getf dm_Ma_followEquation_18 lf_Ma_132 c0 rfl) ?_
    obtain ⟨qf, qc⟩ := rwA_c rqa
    refine xcV (as := [.inr (some mm0)]) (rest := []) dm_Ma_followEquation_21 lc_Ro_same lm_Ma_158 li_Ro_same (nr rfl rfl) rfl rfl qc rfl (nl rfl) (ro_same rqa w0 (nn_ne (nn_g gx0).1)) ?_
    rintro _ hx9 ⟨rfl, hhx9⟩
    have hhx9 := hhx9.symm
    subst hhx9
    show x_X _ 24 [some (.inr (some 0)), some (.inr (some a1)), some (.inr (some a0)), some (.inr (some ea))] [.inl (if P.2.1 = x0.2.1 then 1 else 0)] _ _
    by_cases hc : P.2.1 = x0.2.1
    · rw [if_pos hc, ifc_t hc]
      show x_X _ 24 [some (.inr (some 0)), some (.inr (some a1)), some (.inr (some a0)), some (.inr (some ea))] [.inl 1] _ _
      refine xx (xs_if_ne_t (tgt := 29) dm_Ma_followEquation_24 rfl (by unfold ir; omega) (by omega)) ?_
      refine xx (xs_aload_n dm_Ma_followEquation_29 rfl) ?_
      refine xx (xs_iconst dm_Ma_followEquation_30) ?_
      refine xx (xs_aload_n dm_Ma_followEquation_31 rfl) ?_
      refine xx (xs_aload_n dm_Ma_followEquation_32 rfl) ?_
      refine xx (xs_aload_n dm_Ma_followEquation_33 rfl) ?_
      refine xcV (as := [.inr (some a1), .inr (some a0)]) (rest := [.inl 2, .inr (some 0)]) dm_Ma_followEquation_34 lc_Ma_hypothesesOfBoth lm_Ma_235 li_Ma_hypothesesOfBoth (nr rfl rfl) rfl rfl m1 rfl (nl rfl) (ma_both hm i1 i0 gx1 gx0) ?_
      rintro _ h2 ⟨yB, rfl, hyB, hm, gB⟩
      have eca := ce_S eca gB (by omega)
      have rpa := rwA_S rpa gB
      have rqa := rwA_S rqa gB
      have rsa := rwA_S rsa gB
      have G := gr_tr G gB (fun _ _ e => e) (Nat.le_refl _) (Nat.le_refl _)
      have i1 := itA_S i1_0 G
      have c1 := ce_S c1_0 G (by omega)
      have w1 := rwA_S w1_0 G
      have hy1 := hyA_S hy1_0 G
      have i0 := itA_S i0_0 G
      have c0 := ce_S c0_0 G (by omega)
      have w0 := rwA_S w0_0 G
      have hy0 := hyA_S hy0_0 G
      have m1 := hm.1
      show x_X _ 37 [some (.inr (some 0)), some (.inr (some a1)), some (.inr (some a0)), some (.inr (some ea))] [.inr (some yB), .inl 2, .inr (some 0)] _ _
      refine xx (xs_aload_n dm_Ma_followEquation_37 rfl) ?_
      refine xx (xs_getf dm_Ma_followEquation_38 lf_Ma_152 eca rfl) ?_
      refine xcV (as := [.inl 2, .inr (some yB), .inr (some sa)]) (rest := []) dm_Ma_followEquation_41 lc_Ma_finishTheorem lm_Ma_101 li_Ma_finishTheorem (nr rfl rfl) rfl rfl m1 rfl (nl rfl) (ma_fTh (n := 2) hg hm hyB rsa rfl (by decide)) ?_
      rintro _ h3 ⟨rfl, hmF, gF⟩
      show x_X _ 44 [some (.inr (some 0)), some (.inr (some a1)), some (.inr (some a0)), some (.inr (some ea))] [.inl (fin9 M 2 (2, P.2.2, hfc (hfc [] x1.2.2) x0.2.2)).1] _ _
      exact ⟨_, _, xb_i dm_Ma_followEquation_44 rfl, rfl, hmF, gr_w (gr_tr (gr_SA G) gF (fun _ _ e => e) (Nat.le_refl _) (Nat.le_refl _)) (fun _ _ e => e) (by omega) (by omega)⟩
    · rw [if_neg hc, ifc_f hc]
      show x_X _ 24 [some (.inr (some 0)), some (.inr (some a1)), some (.inr (some a0)), some (.inr (some ea))] [.inl 0] _ _
      refine xx (xs_if_ne_f (tgt := 29) dm_Ma_followEquation_24 rfl (by unfold ir; omega) (by omega)) ?_
      refine xx (xs_iconst dm_Ma_followEquation_27) ?_
      exact ⟨_, _, xb_i dm_Ma_followEquation_28 rfl, rfl, hm, gr_w (gr_SA G) (fun _ _ e => e) (by omega) (by omega)⟩
  · subst e9
    have hh9 := hh9.symm
    subst hh9
    show x_X _ 8 [some (.inr (some 0)), some (.inr (some a1)), some (.inr (some a0)), none] [.inr none] _ _
    rw [show st_eqmp M = (2, M) by unfold st_eqmp; rw [kb1, ifc_f (fun e => Ea e.1)]]
    refine xx (xs_astore_n dm_Ma_followEquation_8 (by decide)) ?_
    show x_X _ 9 [some (.inr (some 0)), some (.inr (some a1)), some (.inr (some a0)), some (.inr none)] [] _ _
    refine xx (xs_aload_n dm_Ma_followEquation_9 rfl) ?_
    refine xx (xs_ifnull_t (tgt := 27) dm_Ma_followEquation_10 rfl) ?_
    refine xx (xs_iconst dm_Ma_followEquation_27) ?_
    exact ⟨_, _, xb_i dm_Ma_followEquation_28 rfl, rfl, hm, gr_w (gr_SA G) (fun _ _ e => e) (by omega) (by omega)⟩
set_option maxHeartbeats 4000000 in
set_option maxRecDepth 100000 in
theorem ma_apply {h : xH} {M : mS} {a1 a0 : Nat} {x1 x0 : oB} (hg : gM M) (hm : cM h M) (hx1 : M.1[1]? = some x1) (hx0 : M.1[0]? = some x0) (i1 : itA h a1 x1) (i0 : itA h a0 x0) (k1 : x1.1 = 2) (k0 : x0.1 = 2) : x_Mx mm_Ma_applyEquations [.inr (some 0), .inr (some a1), .inr (some a0)] h (clP 250 1500 h (st_cong M)) := by
  refine xmx rfl (nl rfl) ?_
  have hm0 := hm
  have m1 := hm.1
  have G := gr_rf pS h
  show x_X _ 0 [some (.inr (some 0)), some (.inr (some a1)), some (.inr (some a0)), none, none, none, none, none] [] _ _
  have g6 := hg.2.2.2.2.2.1
  have i1_0 := i1
  obtain ⟨ka1, kb1, kc1⟩ := kd_of hx1
  have hl1 := (List.getElem?_eq_some_iff.mp hx1).1
  have gx1 := gM_top hg hx1
  obtain ⟨t1, l1, n1, s1, hh1⟩ := gO_2 gx1 k1
  obtain ⟨gi1, mm1, y1, c1, w1, hy1⟩ := i1
  have i1 := i1_0
  have c1_0 := c1
  have w1_0 := w1
  have hy1_0 := hy1
  have i0_0 := i0
  obtain ⟨ka0, kb0, kc0⟩ := kd_of hx0
  have hl0 := (List.getElem?_eq_some_iff.mp hx0).1
  have gx0 := gM_top hg hx0
  obtain ⟨t0, l0, n0, s0, hh0⟩ := gO_2 gx0 k0
  obtain ⟨gi0, mm0, y0, c0, w0, hy0⟩ := i0
  have i0 := i0_0
  have c0_0 := c0
  have w0_0 := w0
  have hy0_0 := hy0
  refine xx (xs_aload_n dm_Ma_applyEquations_0 rfl) ?_
  refine xx (xs_aload_n dm_Ma_applyEquations_1 rfl) ?_
  refine xx (xs_getf dm_Ma_applyEquations_2 lf_Ma_132 c1 rfl) ?_
  refine xcV (as := [.inr (some mm1)]) (rest := []) dm_Ma_applyEquations_5 lc_Ma_equationIn lm_Ma_136 li_Ma_equationIn (nr rfl rfl) rfl rfl m1 rfl (nl rfl) (ma_eqIn hm w1 t1) ?_
  rintro r9 h1 (⟨Ea, ea, pa, qa, sa, e9, gea, eca, rpa, rqa, rsa, hmE, gEa⟩ | ⟨Ea, e9, hh9⟩)
  · subst e9
    have hm := hmE
    clear hmE
    have G := gr_tr G gEa (fun _ _ e => e) (Nat.le_refl _) (Nat.le_refl _)
    have i1 := itA_S i1_0 G
    have c1 := ce_S c1_0 G (by omega)
    have w1 := rwA_S w1_0 G
    have hy1 := hyA_S hy1_0 G
    have i0 := itA_S i0_0 G
    have c0 := ce_S c0_0 G (by omega)
    have w0 := rwA_S w0_0 G
    have hy0 := hyA_S hy0_0 G
    have m1 := hm.1
    show x_X _ 8 [some (.inr (some 0)), some (.inr (some a1)), some (.inr (some a0)), none, none, none, none, none] [.inr (some ea)] _ _
    refine xx (xs_astore_n dm_Ma_applyEquations_8 (by decide)) ?_
    show x_X _ 9 [some (.inr (some 0)), some (.inr (some a1)), some (.inr (some a0)), some (.inr (some ea)), none, none, none, none] [] _ _
    refine xx (xs_aload_n dm_Ma_applyEquations_9 rfl) ?_
    refine xx (xs_aload_n dm_Ma_applyEquations_10 rfl) ?_
    refine xx (xs_getf dm_Ma_applyEquations_11 lf_Ma_132 c0 rfl) ?_
    refine xcV (as := [.inr (some mm0)]) (rest := []) dm_Ma_applyEquations_14 lc_Ma_equationIn lm_Ma_136 li_Ma_equationIn (nr rfl rfl) rfl rfl m1 rfl (nl rfl) (ma_eqIn hm w0 t0) ?_
    rintro r9 h2 (⟨Eb, eb, pb, qb, sb, e9, geb, ecb, rpb, rqb, rsb, hmE, gEb⟩ | ⟨Eb, e9, hh9⟩)
    · subst e9
      have hm := hmE
      clear hmE
      have eca := ce_S eca gEb (by omega)
      have rpa := rwA_S rpa gEb
      have rqa := rwA_S rqa gEb
      have rsa := rwA_S rsa gEb
      have G := gr_tr G gEb (fun _ _ e => e) (Nat.le_refl _) (Nat.le_refl _)
      have i1 := itA_S i1_0 G
      have c1 := ce_S c1_0 G (by omega)
      have w1 := rwA_S w1_0 G
      have hy1 := hyA_S hy1_0 G
      have i0 := itA_S i0_0 G
      have c0 := ce_S c0_0 G (by omega)
      have w0 := rwA_S w0_0 G
      have hy0 := hyA_S hy0_0 G
      have m1 := hm.1
      show x_X _ 17 [some (.inr (some 0)), some (.inr (some a1)), some (.inr (some a0)), some (.inr (some ea)), none, none, none, none] [.inr (some eb)] _ _
      have hqa := eqx_p t1 Ea
      have hqb := eqx_p t0 Eb
      obtain ⟨P, eP⟩ : ∃ P, P = eqx x1.2.1 := ⟨_, rfl⟩
      obtain ⟨R, eR⟩ : ∃ P, P = eqx x0.2.1 := ⟨_, rfl⟩
      rw [← eP] at hqa rpa rqa rsa
      rw [← eR] at hqb rpb rqb rsb
      have est : st_cong M = ifc (∃ d, P.1 = 0 :: (R.1 ++ d)) (fin9 M 2 (2, (apE (P.1.drop (1 + R.1.length)) P R).take 81, hfc (hfc [] x1.2.2) x0.2.2)) (2, M) := by
        unfold st_cong
        rw [kb1, kb0, kc1, kc0, ← eP, ← eR]
        by_cases hc : ∃ d, P.1 = 0 :: (R.1 ++ d)
        · rw [ifc_t ⟨Ea, Eb, hc⟩, ifc_t hc, ← fin9_fi (Or.inr rfl) (hR_brg0 (hR_brg0 (hR_0 _) hh1) hh0) (by omega)]
        · rw [ifc_f (fun e => hc e.2.2), ifc_f hc]
      rw [est]
      by_cases hc : ∃ d, P.1 = 0 :: (R.1 ++ d)
      · rw [ifc_t hc]
        refine xx (xs_astore dm_Ma_applyEquations_17 (by decide)) ?_
        show x_X _ 19 [some (.inr (some 0)), some (.inr (some a1)), some (.inr (some a0)), some (.inr (some ea)), some (.inr (some eb)), none, none, none] [] _ _
        refine xx (xs_aload_n dm_Ma_applyEquations_19 rfl) ?_
        refine xx (xs_ifnull_f dm_Ma_applyEquations_20) ?_
        refine xx (xs_aload dm_Ma_applyEquations_23 rfl) ?_
        refine xx (xs_ifnull_f dm_Ma_applyEquations_25) ?_
        refine xx (xs_aload_n dm_Ma_applyEquations_28 rfl) ?_
        refine xx (xs_aload_n dm_Ma_applyEquations_29 rfl) ?_
        refine xx (xs_getf dm_Ma_applyEquations_30 lf_Ma_155 eca rfl) ?_
        refine xx (xs_aload dm_Ma_applyEquations_33 rfl) ?_
        refine xx (xs_getf dm_Ma_applyEquations_35 lf_Ma_155 ecb rfl) ?_
        refine xcV (as := [.inr (some pa), .inr (some pb)]) (rest := []) dm_Ma_applyEquations_38 lc_Ma_takesArgument lm_Ma_84 li_Ma_takesArgument (nr rfl rfl) rfl rfl m1 rfl (nl rfl) (ma_takes (R := 1) hm rpa rpb hqa.2.1 hqb.2.1 (fun _ => rfl) (fun e => absurd hc e)) ?_
        rintro _ h3 ⟨rfl, hm, gt⟩
        have eca := ce_S eca gt (by omega)
        have rpa := rwA_S rpa gt
        have rqa := rwA_S rqa gt
        have rsa := rwA_S rsa gt
        have ecb := ce_S ecb gt (by omega)
        have rpb := rwA_S rpb gt
        have rqb := rwA_S rqb gt
        have rsb := rwA_S rsb gt
        have G := gr_tr G gt (fun _ _ e => e) (Nat.le_refl _) (Nat.le_refl _)
        have i1 := itA_S i1_0 G
        have c1 := ce_S c1_0 G (by omega)
        have w1 := rwA_S w1_0 G
        have hy1 := hyA_S hy1_0 G
        have i0 := itA_S i0_0 G
        have c0 := ce_S c0_0 G (by omega)
        have w0 := rwA_S w0_0 G
        have hy0 := hyA_S hy0_0 G
        have m1 := hm.1
        show x_X _ 41 [some (.inr (some 0)), some (.inr (some a1)), some (.inr (some a0)), some (.inr (some ea)), some (.inr (some eb)), none, none, none] [.inl 1] _ _
        refine xx (xs_if_ne_t (tgt := 46) dm_Ma_applyEquations_41 rfl (by unfold ir; omega) (by omega)) ?_
        refine xx (xs_aload_n dm_Ma_applyEquations_46 rfl) ?_
        refine xx (xs_getf dm_Ma_applyEquations_47 lf_Ma_10 m1 rfl) ?_
        refine xx (xs_aload_n dm_Ma_applyEquations_50 rfl) ?_
        refine xx (xs_getf dm_Ma_applyEquations_51 lf_Ma_147 eca rfl) ?_
        refine xx (xs_aload dm_Ma_applyEquations_54 rfl) ?_
        refine xx (xs_getf dm_Ma_applyEquations_56 lf_Ma_147 ecb rfl) ?_
        refine xcV (as := [.inr (some qa), .inr (some qb)]) (rest := []) dm_Ma_applyEquations_59 lc_Sc_application lm_Ma_88 li_Sc_application (nr rfl rfl) rfl rfl (scP_c hm.2.1.1).choose_spec rfl (nl rfl) (sk_app hm rqa rqb) ?_
        rintro _ h4 ⟨bl, rfl, hm, vl, gl⟩
        have eca := ce_S eca gl (by omega)
        have rpa := rwA_S rpa gl
        have rqa := rwA_S rqa gl
        have rsa := rwA_S rsa gl
        have ecb := ce_S ecb gl (by omega)
        have rpb := rwA_S rpb gl
        have rqb := rwA_S rqb gl
        have rsb := rwA_S rsb gl
        have G := gr_tr G gl (fun _ _ e => e) (Nat.le_refl _) (Nat.le_refl _)
        have i1 := itA_S i1_0 G
        have c1 := ce_S c1_0 G (by omega)
        have w1 := rwA_S w1_0 G
        have hy1 := hyA_S hy1_0 G
        have i0 := itA_S i0_0 G
        have c0 := ce_S c0_0 G (by omega)
        have w0 := rwA_S w0_0 G
        have hy0 := hyA_S hy0_0 G
        have m1 := hm.1
        show x_X _ 62 [some (.inr (some 0)), some (.inr (some a1)), some (.inr (some a0)), some (.inr (some ea)), some (.inr (some eb)), none, none, none] [.inr (some bl)] _ _
        refine xx (xs_astore dm_Ma_applyEquations_62 (by decide)) ?_
        show x_X _ 64 [some (.inr (some 0)), some (.inr (some a1)), some (.inr (some a0)), some (.inr (some ea)), some (.inr (some eb)), some (.inr (some bl)), none, none] [] _ _
        refine xx (xs_aload_n dm_Ma_applyEquations_64 rfl) ?_
        refine xx (xs_getf dm_Ma_applyEquations_65 lf_Ma_10 m1 rfl) ?_
        refine xx (xs_aload_n dm_Ma_applyEquations_68 rfl) ?_
        refine xx (xs_getf dm_Ma_applyEquations_69 lf_Ma_152 eca rfl) ?_
        refine xx (xs_aload dm_Ma_applyEquations_72 rfl) ?_
        refine xx (xs_getf dm_Ma_applyEquations_74 lf_Ma_152 ecb rfl) ?_
        refine xcV (as := [.inr (some sa), .inr (some sb)]) (rest := []) dm_Ma_applyEquations_77 lc_Sc_application lm_Ma_88 li_Sc_application (nr rfl rfl) rfl rfl (scP_c hm.2.1.1).choose_spec rfl (nl rfl) (sk_app hm rsa rsb) ?_
        rintro _ h5 ⟨br, rfl, hm, vr, gr⟩
        have eca := ce_S eca gr (by omega)
        have rpa := rwA_S rpa gr
        have rqa := rwA_S rqa gr
        have rsa := rwA_S rsa gr
        have ecb := ce_S ecb gr (by omega)
        have rpb := rwA_S rpb gr
        have rqb := rwA_S rqb gr
        have rsb := rwA_S rsb gr
        have vl := rwA_S vl gr
        have G := gr_tr G gr (fun _ _ e => e) (Nat.le_refl _) (Nat.le_refl _)
        have i1 := itA_S i1_0 G
        have c1 := ce_S c1_0 G (by omega)
        have w1 := rwA_S w1_0 G
        have hy1 := hyA_S hy1_0 G
        have i0 := itA_S i0_0 G
        have c0 := ce_S c0_0 G (by omega)
        have w0 := rwA_S w0_0 G
        have hy0 := hyA_S hy0_0 G
        have m1 := hm.1
        show x_X _ 80 [some (.inr (some 0)), some (.inr (some a1)), some (.inr (some a0)), some (.inr (some ea)), some (.inr (some eb)), some (.inr (some bl)), none, none] [.inr (some br)] _ _
        refine xx (xs_astore dm_Ma_applyEquations_80 (by decide)) ?_
        show x_X _ 82 [some (.inr (some 0)), some (.inr (some a1)), some (.inr (some a0)), some (.inr (some ea)), some (.inr (some eb)), some (.inr (some bl)), some (.inr (some br)), none] [] _ _
        refine xx (xs_aload_n dm_Ma_applyEquations_82 rfl) ?_
        refine xx (xs_getf dm_Ma_applyEquations_83 lf_Ma_10 m1 rfl) ?_
        refine xx (xs_aload_n dm_Ma_applyEquations_86 rfl) ?_
        refine xx (xs_getf dm_Ma_applyEquations_87 lf_Ma_155 eca rfl) ?_
        obtain ⟨d, hd⟩ := hc
        obtain ⟨pf, pc⟩ := rwA_c rpa
        refine xcV (as := []) (rest := [.inr (some 1)]) dm_Ma_applyEquations_90 lc_Ro_functionResult lm_Ma_239 li_Ro_functionResult (nr rfl rfl) rfl rfl pc rfl (nl rfl) (x_Mq (ro_functionResult rpa hd hqb.2.1) (fun _ _ hh => mr_f hm hh)) ?_
        rintro _ h6 ⟨bd, rfl, hm, vd, gd⟩
        have eca := ce_S eca gd (by omega)
        have rpa := rwA_S rpa gd
        have rqa := rwA_S rqa gd
        have rsa := rwA_S rsa gd
        have ecb := ce_S ecb gd (by omega)
        have rpb := rwA_S rpb gd
        have rqb := rwA_S rqb gd
        have rsb := rwA_S rsb gd
        have vl := rwA_S vl gd
        have vr := rwA_S vr gd
        have G := gr_tr G gd (fun _ _ e => e) (Nat.le_refl _) (Nat.le_refl _)
        have i1 := itA_S i1_0 G
        have c1 := ce_S c1_0 G (by omega)
        have w1 := rwA_S w1_0 G
        have hy1 := hyA_S hy1_0 G
        have i0 := itA_S i0_0 G
        have c0 := ce_S c0_0 G (by omega)
        have w0 := rwA_S w0_0 G
        have hy0 := hyA_S hy0_0 G
        have m1 := hm.1
        show x_X _ 93 [some (.inr (some 0)), some (.inr (some a1)), some (.inr (some a0)), some (.inr (some ea)), some (.inr (some eb)), some (.inr (some bl)), some (.inr (some br)), none] [.inr (some bd), .inr (some 1)] _ _
        refine xx (xs_aload dm_Ma_applyEquations_93 rfl) ?_
        refine xx (xs_aload dm_Ma_applyEquations_95 rfl) ?_
        refine xcV (as := [.inr (some bd), .inr (some bl), .inr (some br)]) (rest := []) dm_Ma_applyEquations_97 lc_Sc_equation lm_Ma_97 li_Sc_equation (nr rfl rfl) rfl rfl (scP_c hm.2.1.1).choose_spec rfl (nl rfl) (sk_eq hm vd vl vr) ?_
        rintro _ h7 ⟨be, rfl, hm, ve, ge⟩
        have eca := ce_S eca ge (by omega)
        have rpa := rwA_S rpa ge
        have rqa := rwA_S rqa ge
        have rsa := rwA_S rsa ge
        have ecb := ce_S ecb ge (by omega)
        have rpb := rwA_S rpb ge
        have rqb := rwA_S rqb ge
        have rsb := rwA_S rsb ge
        have vl := rwA_S vl ge
        have vr := rwA_S vr ge
        have vd := rwA_S vd ge
        have G := gr_tr G ge (fun _ _ e => e) (Nat.le_refl _) (Nat.le_refl _)
        have i1 := itA_S i1_0 G
        have c1 := ce_S c1_0 G (by omega)
        have w1 := rwA_S w1_0 G
        have hy1 := hyA_S hy1_0 G
        have i0 := itA_S i0_0 G
        have c0 := ce_S c0_0 G (by omega)
        have w0 := rwA_S w0_0 G
        have hy0 := hyA_S hy0_0 G
        have m1 := hm.1
        show x_X _ 100 [some (.inr (some 0)), some (.inr (some a1)), some (.inr (some a0)), some (.inr (some ea)), some (.inr (some eb)), some (.inr (some bl)), some (.inr (some br)), none] [.inr (some be)] _ _
        refine xx (xs_astore dm_Ma_applyEquations_100 (by decide)) ?_
        show x_X _ 102 [some (.inr (some 0)), some (.inr (some a1)), some (.inr (some a0)), some (.inr (some ea)), some (.inr (some eb)), some (.inr (some bl)), some (.inr (some br)), some (.inr (some be))] [] _ _
        refine xx (xs_aload_n dm_Ma_applyEquations_102 rfl) ?_
        refine xx (xs_iconst dm_Ma_applyEquations_103) ?_
        refine xx (xs_aload_n dm_Ma_applyEquations_104 rfl) ?_
        refine xx (xs_aload_n dm_Ma_applyEquations_105 rfl) ?_
        refine xx (xs_aload_n dm_Ma_applyEquations_106 rfl) ?_
        have ee : (eqn d ((12 :: (P.2.1 ++ R.2.1)).take 81) ((12 :: (P.2.2 ++ R.2.2)).take 81)).take 81 = (apE (P.1.drop (1 + R.1.length)) P R).take 81 := by
          rw [eqn_tk2, eqn_tk1, hd]
          unfold apE
          rw [show ((0 : Int) :: (R.1 ++ d)).drop (1 + R.1.length) = d by rw [Nat.add_comm]; simp]
        rw [ee] at ve
        refine xcV (as := [.inr (some a1), .inr (some a0)]) (rest := [.inl 2, .inr (some 0)]) dm_Ma_applyEquations_107 lc_Ma_hypothesesOfBoth lm_Ma_235 li_Ma_hypothesesOfBoth (nr rfl rfl) rfl rfl m1 rfl (nl rfl) (ma_both hm i1 i0 gx1 gx0) ?_
        rintro _ h8 ⟨yB, rfl, hyB, hm, gB⟩
        have eca := ce_S eca gB (by omega)
        have rpa := rwA_S rpa gB
        have rqa := rwA_S rqa gB
        have rsa := rwA_S rsa gB
        have ecb := ce_S ecb gB (by omega)
        have rpb := rwA_S rpb gB
        have rqb := rwA_S rqb gB
        have rsb := rwA_S rsb gB
        have vl := rwA_S vl gB
        have vr := rwA_S vr gB
        have vd := rwA_S vd gB
        have ve := rwA_S ve gB
        have G := gr_tr G gB (fun _ _ e => e) (Nat.le_refl _) (Nat.le_refl _)
        have i1 := itA_S i1_0 G
        have c1 := ce_S c1_0 G (by omega)
        have w1 := rwA_S w1_0 G
        have hy1 := hyA_S hy1_0 G
        have i0 := itA_S i0_0 G
        have c0 := ce_S c0_0 G (by omega)
        have w0 := rwA_S w0_0 G
        have hy0 := hyA_S hy0_0 G
        have m1 := hm.1
        show x_X _ 110 [some (.inr (some 0)), some (.inr (some a1)), some (.inr (some a0)), some (.inr (some ea)), some (.inr (some eb)), some (.inr (some bl)), some (.inr (some br)), some (.inr (some be))] [.inr (some yB), .inl 2, .inr (some 0)] _ _
        refine xx (xs_aload dm_Ma_applyEquations_110 rfl) ?_
        refine xcV (as := [.inl 2, .inr (some yB), .inr (some be)]) (rest := []) dm_Ma_applyEquations_112 lc_Ma_finishTheorem lm_Ma_101 li_Ma_finishTheorem (nr rfl rfl) rfl rfl m1 rfl (nl rfl) (ma_fTh (n := 2) hg hm hyB ve rfl (by decide)) ?_
        rintro _ h9 ⟨rfl, hmF, gF⟩
        show x_X _ 115 [some (.inr (some 0)), some (.inr (some a1)), some (.inr (some a0)), some (.inr (some ea)), some (.inr (some eb)), some (.inr (some bl)), some (.inr (some br)), some (.inr (some be))] [.inl (fin9 M 2 (2, (apE (P.1.drop (1 + R.1.length)) P R).take 81, hfc (hfc [] x1.2.2) x0.2.2)).1] _ _
        exact ⟨_, _, xb_i dm_Ma_applyEquations_115 rfl, rfl, hmF, gr_w (gr_tr (gr_SA G) gF (fun _ _ e => e) (Nat.le_refl _) (Nat.le_refl _)) (fun _ _ e => e) (by omega) (by omega)⟩
      · rw [ifc_f hc]
        refine xx (xs_astore dm_Ma_applyEquations_17 (by decide)) ?_
        show x_X _ 19 [some (.inr (some 0)), some (.inr (some a1)), some (.inr (some a0)), some (.inr (some ea)), some (.inr (some eb)), none, none, none] [] _ _
        refine xx (xs_aload_n dm_Ma_applyEquations_19 rfl) ?_
        refine xx (xs_ifnull_f dm_Ma_applyEquations_20) ?_
        refine xx (xs_aload dm_Ma_applyEquations_23 rfl) ?_
        refine xx (xs_ifnull_f dm_Ma_applyEquations_25) ?_
        refine xx (xs_aload_n dm_Ma_applyEquations_28 rfl) ?_
        refine xx (xs_aload_n dm_Ma_applyEquations_29 rfl) ?_
        refine xx (xs_getf dm_Ma_applyEquations_30 lf_Ma_155 eca rfl) ?_
        refine xx (xs_aload dm_Ma_applyEquations_33 rfl) ?_
        refine xx (xs_getf dm_Ma_applyEquations_35 lf_Ma_155 ecb rfl) ?_
        refine xcV (as := [.inr (some pa), .inr (some pb)]) (rest := []) dm_Ma_applyEquations_38 lc_Ma_takesArgument lm_Ma_84 li_Ma_takesArgument (nr rfl rfl) rfl rfl m1 rfl (nl rfl) (ma_takes (R := 0) hm rpa rpb hqa.2.1 hqb.2.1 (fun e => absurd e hc) (fun _ => rfl)) ?_
        rintro _ h3 ⟨rfl, hm, gt⟩
        have eca := ce_S eca gt (by omega)
        have rpa := rwA_S rpa gt
        have rqa := rwA_S rqa gt
        have rsa := rwA_S rsa gt
        have ecb := ce_S ecb gt (by omega)
        have rpb := rwA_S rpb gt
        have rqb := rwA_S rqb gt
        have rsb := rwA_S rsb gt
        have G := gr_tr G gt (fun _ _ e => e) (Nat.le_refl _) (Nat.le_refl _)
        have i1 := itA_S i1_0 G
        have c1 := ce_S c1_0 G (by omega)
        have w1 := rwA_S w1_0 G
        have hy1 := hyA_S hy1_0 G
        have i0 := itA_S i0_0 G
        have c0 := ce_S c0_0 G (by omega)
        have w0 := rwA_S w0_0 G
        have hy0 := hyA_S hy0_0 G
        have m1 := hm.1
        show x_X _ 41 [some (.inr (some 0)), some (.inr (some a1)), some (.inr (some a0)), some (.inr (some ea)), some (.inr (some eb)), none, none, none] [.inl 0] _ _
        refine xx (xs_if_ne_f (tgt := 46) dm_Ma_applyEquations_41 rfl (by unfold ir; omega) (by omega)) ?_
        refine xx (xs_iconst dm_Ma_applyEquations_44) ?_
        exact ⟨_, _, xb_i dm_Ma_applyEquations_45 rfl, rfl, hm, gr_w (gr_SA G) (fun _ _ e => e) (by omega) (by omega)⟩
    · subst e9
      have hh9 := hh9.symm
      subst hh9
      show x_X _ 17 [some (.inr (some 0)), some (.inr (some a1)), some (.inr (some a0)), some (.inr (some ea)), none, none, none, none] [.inr none] _ _
      rw [show st_cong M = (2, M) by unfold st_cong; rw [kb1, kb0, ifc_f (fun e => Eb e.2.1)]]
      refine xx (xs_astore dm_Ma_applyEquations_17 (by decide)) ?_
      show x_X _ 19 [some (.inr (some 0)), some (.inr (some a1)), some (.inr (some a0)), some (.inr (some ea)), some (.inr none), none, none, none] [] _ _
      refine xx (xs_aload_n dm_Ma_applyEquations_19 rfl) ?_
      refine xx (xs_ifnull_f dm_Ma_applyEquations_20) ?_
      refine xx (xs_aload dm_Ma_applyEquations_23 rfl) ?_
      refine xx (xs_ifnull_t (tgt := 44) dm_Ma_applyEquations_25 rfl) ?_
      refine xx (xs_iconst dm_Ma_applyEquations_44) ?_
      exact ⟨_, _, xb_i dm_Ma_applyEquations_45 rfl, rfl, hm, gr_w (gr_SA G) (fun _ _ e => e) (by omega) (by omega)⟩
  · subst e9
    have hh9 := hh9.symm
    subst hh9
    show x_X _ 8 [some (.inr (some 0)), some (.inr (some a1)), some (.inr (some a0)), none, none, none, none, none] [.inr none] _ _
    refine xx (xs_astore_n dm_Ma_applyEquations_8 (by decide)) ?_
    show x_X _ 9 [some (.inr (some 0)), some (.inr (some a1)), some (.inr (some a0)), some (.inr none), none, none, none, none] [] _ _
    refine xx (xs_aload_n dm_Ma_applyEquations_9 rfl) ?_
    refine xx (xs_aload_n dm_Ma_applyEquations_10 rfl) ?_
    refine xx (xs_getf dm_Ma_applyEquations_11 lf_Ma_132 c0 rfl) ?_
    refine xcV (as := [.inr (some mm0)]) (rest := []) dm_Ma_applyEquations_14 lc_Ma_equationIn lm_Ma_136 li_Ma_equationIn (nr rfl rfl) rfl rfl m1 rfl (nl rfl) (ma_eqIn hm w0 t0) ?_
    rintro r9 h2 (⟨Eb, eb, pb, qb, sb, e9, geb, ecb, rpb, rqb, rsb, hmE, gEb⟩ | ⟨Eb, e9, hh9⟩)
    · subst e9
      have hm := hmE
      clear hmE
      have G := gr_tr G gEb (fun _ _ e => e) (Nat.le_refl _) (Nat.le_refl _)
      have i1 := itA_S i1_0 G
      have c1 := ce_S c1_0 G (by omega)
      have w1 := rwA_S w1_0 G
      have hy1 := hyA_S hy1_0 G
      have i0 := itA_S i0_0 G
      have c0 := ce_S c0_0 G (by omega)
      have w0 := rwA_S w0_0 G
      have hy0 := hyA_S hy0_0 G
      have m1 := hm.1
      show x_X _ 17 [some (.inr (some 0)), some (.inr (some a1)), some (.inr (some a0)), some (.inr none), none, none, none, none] [.inr (some eb)] _ _
      rw [show st_cong M = (2, M) by unfold st_cong; rw [kb1, kb0, ifc_f (fun e => Ea e.1)]]
      refine xx (xs_astore dm_Ma_applyEquations_17 (by decide)) ?_
      show x_X _ 19 [some (.inr (some 0)), some (.inr (some a1)), some (.inr (some a0)), some (.inr none), some (.inr (some eb)), none, none, none] [] _ _
      refine xx (xs_aload_n dm_Ma_applyEquations_19 rfl) ?_
      refine xx (xs_ifnull_t (tgt := 44) dm_Ma_applyEquations_20 rfl) ?_
      refine xx (xs_iconst dm_Ma_applyEquations_44) ?_
      exact ⟨_, _, xb_i dm_Ma_applyEquations_45 rfl, rfl, hm, gr_w (gr_SA G) (fun _ _ e => e) (by omega) (by omega)⟩
    · subst e9
      have hh9 := hh9.symm
      subst hh9
      show x_X _ 17 [some (.inr (some 0)), some (.inr (some a1)), some (.inr (some a0)), some (.inr none), none, none, none, none] [.inr none] _ _
      rw [show st_cong M = (2, M) by unfold st_cong; rw [kb1, kb0, ifc_f (fun e => Ea e.1)]]
      refine xx (xs_astore dm_Ma_applyEquations_17 (by decide)) ?_
      show x_X _ 19 [some (.inr (some 0)), some (.inr (some a1)), some (.inr (some a0)), some (.inr none), some (.inr none), none, none, none] [] _ _
      refine xx (xs_aload_n dm_Ma_applyEquations_19 rfl) ?_
      refine xx (xs_ifnull_t (tgt := 44) dm_Ma_applyEquations_20 rfl) ?_
      refine xx (xs_iconst dm_Ma_applyEquations_44) ?_
      exact ⟨_, _, xb_i dm_Ma_applyEquations_45 rfl, rfl, hm, gr_w (gr_SA G) (fun _ _ e => e) (by omega) (by omega)⟩
set_option maxHeartbeats 4000000 in
set_option maxRecDepth 100000 in
theorem ma_deduct {h : xH} {M : mS} {a1 a0 : Nat} {x1 x0 : oB} (hg : gM M) (hm : cM h M) (hx1 : M.1[1]? = some x1) (hx0 : M.1[0]? = some x0) (i1 : itA h a1 x1) (i0 : itA h a0 x0) (k1 : x1.1 = 2) (k0 : x0.1 = 2) : x_Mx mm_Ma_deduct [.inr (some 0), .inr (some a1), .inr (some a0)] h (clP 250 1500 h (st_ded M)) := by
  refine xmx rfl (nl rfl) ?_
  have hm0 := hm
  have m1 := hm.1
  have G := gr_rf pS h
  show x_X _ 0 [some (.inr (some 0)), some (.inr (some a1)), some (.inr (some a0)), none, none] [] _ _
  have g6 := hg.2.2.2.2.2.1
  have i1_0 := i1
  obtain ⟨ka1, kb1, kc1⟩ := kd_of hx1
  have hl1 := (List.getElem?_eq_some_iff.mp hx1).1
  have gx1 := gM_top hg hx1
  obtain ⟨t1, l1, n1, s1, hh1⟩ := gO_2 gx1 k1
  obtain ⟨gi1, mm1, y1, c1, w1, hy1⟩ := i1
  have i1 := i1_0
  have c1_0 := c1
  have w1_0 := w1
  have hy1_0 := hy1
  have i0_0 := i0
  obtain ⟨ka0, kb0, kc0⟩ := kd_of hx0
  have hl0 := (List.getElem?_eq_some_iff.mp hx0).1
  have gx0 := gM_top hg hx0
  obtain ⟨t0, l0, n0, s0, hh0⟩ := gO_2 gx0 k0
  obtain ⟨gi0, mm0, y0, c0, w0, hy0⟩ := i0
  have i0 := i0_0
  have c0_0 := c0
  have w0_0 := w0
  have hy0_0 := hy0
  obtain ⟨ro1, qo1, f1, yb1, rb1, yl1, rl1⟩ := hyA_F hy1
  have f1_0 := f1
  obtain ⟨ro0, qo0, f0, yb0, rb0, yl0, rl0⟩ := hyA_F hy0
  have f0_0 := f0
  rw [show st_ded M = fin9 M 2 (2, (eqn [1] x1.2.1 x0.2.1).take 81, adC x1.2.1 (adC x0.2.1 [] x1.2.2) x0.2.2) by
    unfold st_ded
    rw [kb1, kb0, kc1, kc0]
    exact (fin9_fi (Or.inr rfl) (hR_or (hR_brg (hR_brg (hR_0 false) hh1) hh0)) (by omega)).symm]
  refine xx (xs_new dm_Ma_deduct_0 ln_Ma_43) ?_
  obtain ⟨aH, eaH⟩ : ∃ a, a = h.1.length := ⟨_, rfl⟩
  rw [← eaH]
  obtain ⟨h1, hh1⟩ : ∃ hX : xH, hX = (h.1 ++ [.inr (.inr (2, [.inr none, .inl 0]))], h.2 + 2) := ⟨_, rfl⟩
  show x_X _ 3 [some (.inr (some 0)), some (.inr (some a1)), some (.inr (some a0)), none, none] [.inr (some aH)] (h.1 ++ [.inr (.inr (2, [.inr none, .inl 0]))], h.2 + 2) _
  rw [← hh1]
  have caH : h1.1[aH]? = some (.inr (.inr (2, [.inr none, .inl 0]))) := by rw [hh1, eaH]; exact push_at
  have gAH : gr (fun _ => False) 1 2 h h1 := by rw [hh1]; exact gr_push _
  have leH : h1.1.length = h.1.length + 1 := by rw [hh1]; simp
  have gaH : 23 ≤ aH := by rw [eaH]; exact hm.2.2.2.2.2.2.2.2
  have gbH : h.1.length ≤ aH := by rw [eaH]; exact G.1.1
  refine xx (xs_dup dm_Ma_deduct_3) ?_
  refine xcI (as := []) (rest := [.inr (some aH)]) dm_Ma_deduct_4 lc_Hy_init lm_Ma_45 li_Hy_init (nr rfl rfl) rfl rfl (nl rfl) (hy_init caH) ?_
  rintro _ h2 ⟨FH, gBH⟩
  show x_X _ 7 [some (.inr (some 0)), some (.inr (some a1)), some (.inr (some a0)), none, none] [.inr (some aH)] _ _
  obtain ⟨rH, erH⟩ : ∃ r, r = h1.1.length := ⟨_, rfl⟩
  rw [← erH] at FH
  have gCH : gr (fun _ => False) 2 8 h h2 := gr_tr gAH (P' := fun i => i = aH) gBH (fun i hi e => by have : i = aH := e; omega) (Nat.le_refl _) (Nat.le_refl _)
  have hm := cM_new hm gCH
  have gSH := gr_S gCH (fun i e => e.elim)
  have G := gr_tr G gSH (fun _ _ e => e) (Nat.le_refl _) (Nat.le_refl _)
  have i1 := itA_S i1_0 G
  have c1 := ce_S c1_0 G (by omega)
  have w1 := rwA_S w1_0 G
  have hy1 := hyA_S hy1_0 G
  have i0 := itA_S i0_0 G
  have c0 := ce_S c0_0 G (by omega)
  have w0 := rwA_S w0_0 G
  have hy0 := hyA_S hy0_0 G
  have f1 := hyF_S f1_0 G yb1 rb1
  have f0 := hyF_S f0_0 G yb0 rb0
  have m1 := hm.1
  refine xx (xs_astore_n dm_Ma_deduct_7 (by decide)) ?_
  show x_X _ 8 [some (.inr (some 0)), some (.inr (some a1)), some (.inr (some a0)), some (.inr (some aH)), none] [] _ _
  refine xx (xs_aload_n dm_Ma_deduct_8 rfl) ?_
  refine xx (xs_aload_n dm_Ma_deduct_9 rfl) ?_
  refine xx (xs_getf dm_Ma_deduct_10 lf_Ma_140 c1 rfl) ?_
  refine xx (xs_aload_n dm_Ma_deduct_13 rfl) ?_
  refine xx (xs_getf dm_Ma_deduct_14 lf_Ma_132 c0 rfl) ?_
  refine xcV (as := [.inr (some y1), .inr (some mm0)]) (rest := []) dm_Ma_deduct_17 lc_Hy_addAllBut lm_Ma_243 li_Hy_addAllBut (nr rfl rfl) rfl rfl FH.1 rfl (nl rfl) (hy_addAllBut FH f1 w0 (nn_g gx0).1 (by omega) (by omega) (by simp) (nn_g gx1).2) ?_
  rintro _ h3 ⟨rfl, ⟨qH, F9⟩, g9⟩
  have G := gr_tr G g9 (fun i hi e => by exfalso; rcases e with e | e <;> omega) (Nat.le_refl _) (Nat.le_refl _)
  have hm := cM_gr hm0 G (cP_h hm.2.1 g9 (by omega) (by omega)) (fun _ e => e)
  clear g9
  have FH := F9
  clear F9
  have i1 := itA_S i1_0 G
  have c1 := ce_S c1_0 G (by omega)
  have w1 := rwA_S w1_0 G
  have hy1 := hyA_S hy1_0 G
  have i0 := itA_S i0_0 G
  have c0 := ce_S c0_0 G (by omega)
  have w0 := rwA_S w0_0 G
  have hy0 := hyA_S hy0_0 G
  have f1 := hyF_S f1_0 G yb1 rb1
  have f0 := hyF_S f0_0 G yb0 rb0
  have m1 := hm.1
  show x_X _ 20 [some (.inr (some 0)), some (.inr (some a1)), some (.inr (some a0)), some (.inr (some aH)), none] [] _ _
  refine xx (xs_aload_n dm_Ma_deduct_20 rfl) ?_
  refine xx (xs_aload_n dm_Ma_deduct_21 rfl) ?_
  refine xx (xs_getf dm_Ma_deduct_22 lf_Ma_140 c0 rfl) ?_
  refine xx (xs_aload_n dm_Ma_deduct_25 rfl) ?_
  refine xx (xs_getf dm_Ma_deduct_26 lf_Ma_132 c1 rfl) ?_
  refine xcV (as := [.inr (some y0), .inr (some mm1)]) (rest := []) dm_Ma_deduct_29 lc_Hy_addAllBut lm_Ma_243 li_Hy_addAllBut (nr rfl rfl) rfl rfl FH.1 rfl (nl rfl) (hy_addAllBut FH f0 w1 (nn_g gx1).1 (by omega) (by omega) (adC_nn (by simp) (nn_g gx1).2) (nn_g gx0).2) ?_
  rintro _ h4 ⟨rfl, ⟨qH, F9⟩, g9⟩
  have G := gr_tr G g9 (fun i hi e => by exfalso; rcases e with e | e <;> omega) (Nat.le_refl _) (Nat.le_refl _)
  have hm := cM_gr hm0 G (cP_h hm.2.1 g9 (by omega) (by omega)) (fun _ e => e)
  clear g9
  have FH := F9
  clear F9
  have i1 := itA_S i1_0 G
  have c1 := ce_S c1_0 G (by omega)
  have w1 := rwA_S w1_0 G
  have hy1 := hyA_S hy1_0 G
  have i0 := itA_S i0_0 G
  have c0 := ce_S c0_0 G (by omega)
  have w0 := rwA_S w0_0 G
  have hy0 := hyA_S hy0_0 G
  have f1 := hyF_S f1_0 G yb1 rb1
  have f0 := hyF_S f0_0 G yb0 rb0
  have m1 := hm.1
  show x_X _ 32 [some (.inr (some 0)), some (.inr (some a1)), some (.inr (some a0)), some (.inr (some aH)), none] [] _ _
  have hyB := hyF_A FH (by omega) (by omega)
  refine xx (xs_aload_n dm_Ma_deduct_32 rfl) ?_
  refine xx (xs_getf dm_Ma_deduct_33 lf_Ma_10 m1 rfl) ?_
  refine xx (xs_iconst dm_Ma_deduct_36) ?_
  refine xcV (as := [.inl 1]) (rest := []) dm_Ma_deduct_37 lc_Sc_simpleType lm_Ma_57 li_Sc_simpleType (nr rfl rfl) rfl rfl (scP_c hm.2.1.1).choose_spec rfl (nl rfl) (sk_simple hm (by unfold ir; omega)) ?_
  rintro _ h5 ⟨bb, rfl, hm, vb, gb⟩
  have hyB := hyA_S hyB gb
  have G := gr_tr G gb (fun _ _ e => e) (Nat.le_refl _) (Nat.le_refl _)
  have i1 := itA_S i1_0 G
  have c1 := ce_S c1_0 G (by omega)
  have w1 := rwA_S w1_0 G
  have hy1 := hyA_S hy1_0 G
  have i0 := itA_S i0_0 G
  have c0 := ce_S c0_0 G (by omega)
  have w0 := rwA_S w0_0 G
  have hy0 := hyA_S hy0_0 G
  have f1 := hyF_S f1_0 G yb1 rb1
  have f0 := hyF_S f0_0 G yb0 rb0
  have m1 := hm.1
  show x_X _ 40 [some (.inr (some 0)), some (.inr (some a1)), some (.inr (some a0)), some (.inr (some aH)), none] [.inr (some bb)] _ _
  refine xx (xs_astore dm_Ma_deduct_40 (by decide)) ?_
  show x_X _ 42 [some (.inr (some 0)), some (.inr (some a1)), some (.inr (some a0)), some (.inr (some aH)), some (.inr (some bb))] [] _ _
  refine xx (xs_aload_n dm_Ma_deduct_42 rfl) ?_
  refine xx (xs_iconst dm_Ma_deduct_43) ?_
  refine xx (xs_aload_n dm_Ma_deduct_44 rfl) ?_
  refine xx (xs_aload_n dm_Ma_deduct_45 rfl) ?_
  refine xx (xs_getf dm_Ma_deduct_46 lf_Ma_10 m1 rfl) ?_
  refine xx (xs_aload dm_Ma_deduct_49 rfl) ?_
  refine xx (xs_aload_n dm_Ma_deduct_51 rfl) ?_
  refine xx (xs_getf dm_Ma_deduct_52 lf_Ma_132 c1 rfl) ?_
  refine xx (xs_aload_n dm_Ma_deduct_55 rfl) ?_
  refine xx (xs_getf dm_Ma_deduct_56 lf_Ma_132 c0 rfl) ?_
  refine xcV (as := [.inr (some bb), .inr (some mm1), .inr (some mm0)]) (rest := [.inr (some aH), .inl 2, .inr (some 0)]) dm_Ma_deduct_59 lc_Sc_equation lm_Ma_97 li_Sc_equation (nr rfl rfl) rfl rfl (scP_c hm.2.1.1).choose_spec rfl (nl rfl) (sk_eq hm vb w1 w0) ?_
  rintro _ h6 ⟨be, rfl, hm, ve, ge⟩
  have hyB := hyA_S hyB ge
  have vb := rwA_S vb ge
  have G := gr_tr G ge (fun _ _ e => e) (Nat.le_refl _) (Nat.le_refl _)
  have i1 := itA_S i1_0 G
  have c1 := ce_S c1_0 G (by omega)
  have w1 := rwA_S w1_0 G
  have hy1 := hyA_S hy1_0 G
  have i0 := itA_S i0_0 G
  have c0 := ce_S c0_0 G (by omega)
  have w0 := rwA_S w0_0 G
  have hy0 := hyA_S hy0_0 G
  have f1 := hyF_S f1_0 G yb1 rb1
  have f0 := hyF_S f0_0 G yb0 rb0
  have m1 := hm.1
  show x_X _ 62 [some (.inr (some 0)), some (.inr (some a1)), some (.inr (some a0)), some (.inr (some aH)), some (.inr (some bb))] [.inr (some be), .inr (some aH), .inl 2, .inr (some 0)] _ _
  refine xcV (as := [.inl 2, .inr (some aH), .inr (some be)]) (rest := []) dm_Ma_deduct_62 lc_Ma_finishTheorem lm_Ma_101 li_Ma_finishTheorem (nr rfl rfl) rfl rfl m1 rfl (nl rfl) (ma_fTh (n := 2) hg hm hyB ve rfl (by decide)) ?_
  rintro _ h7 ⟨rfl, hmF, gF⟩
  show x_X _ 65 [some (.inr (some 0)), some (.inr (some a1)), some (.inr (some a0)), some (.inr (some aH)), some (.inr (some bb))] [.inl (fin9 M 2 (2, (eqn [1] x1.2.1 x0.2.1).take 81, adC x1.2.1 (adC x0.2.1 [] x1.2.2) x0.2.2)).1] _ _
  exact ⟨_, _, xb_i dm_Ma_deduct_65 rfl, rfl, hmF, gr_w (gr_tr (gr_SA G) gF (fun _ _ e => e) (Nat.le_refl _) (Nat.le_refl _)) (fun _ _ e => e) (by omega) (by omega)⟩
set_option maxHeartbeats 4000000 in
set_option maxRecDepth 100000 in
theorem ma_join {h : xH} {M : mS} {c : Int} (hg : gM M) (hm : cM h M) (hr : ir c) : x_Mx mm_Ma_join [.inr (some 0), .inl c] h (clP 250 1500 h (st_join M c)) := by
  refine xmx rfl (nl rfl) ?_
  have hm0 := hm
  have m1 := hm.1
  have G := gr_rf pS h
  show x_X _ 0 [some (.inr (some 0)), some (.inl c), none, none] [] _ _
  refine xx (xs_aload_n dm_Ma_join_0 rfl) ?_
  refine xx (xs_iconst dm_Ma_join_1) ?_
  refine xx (xs_iconst dm_Ma_join_2) ?_
  refine xcV (as := [.inl 1, .inl 2]) (rest := []) dm_Ma_join_3 lc_Ma_itemBelow lm_Ma_118 li_Ma_itemBelow (nr rfl rfl) rfl rfl m1 rfl (nl rfl) (ma_itemB (i := 1) hg hm rfl (by decide) (by decide)) ?_
  rintro r9 hx9 ⟨hhx9, hR⟩
  have hhx9 := hhx9.symm
  subst hhx9
  rcases hR with ⟨k1, a1, x1, hx1, e9, i1⟩ | ⟨k1, e9⟩
  · subst e9
    obtain ⟨ka1, kb1, kc1⟩ := kd_of hx1
    have hl1 := (List.getElem?_eq_some_iff.mp hx1).1
    have gx1 := gM_top hg hx1
    have i1_0 := i1
    obtain ⟨ge1, mm1, y1, c1, w1, hy1⟩ := i1
    have c1_0 := c1
    have w1_0 := w1
    have hy1_0 := hy1
    show x_X _ 6 [some (.inr (some 0)), some (.inl c), none, none] [.inr (some a1)] _ _
    refine xx (xs_astore_n dm_Ma_join_6 (by decide)) ?_
    show x_X _ 7 [some (.inr (some 0)), some (.inl c), some (.inr (some a1)), none] [] _ _
    refine xx (xs_aload_n dm_Ma_join_7 rfl) ?_
    refine xx (xs_iconst dm_Ma_join_8) ?_
    refine xx (xs_iconst dm_Ma_join_9) ?_
    refine xcV (as := [.inl 0, .inl 2]) (rest := []) dm_Ma_join_10 lc_Ma_itemBelow lm_Ma_118 li_Ma_itemBelow (nr rfl rfl) rfl rfl m1 rfl (nl rfl) (ma_itemB (i := 0) hg hm rfl (by decide) (by decide)) ?_
    rintro r9 hx9 ⟨hhx9, hR⟩
    have hhx9 := hhx9.symm
    subst hhx9
    rcases hR with ⟨k0, a0, x0, hx0, e9, i0⟩ | ⟨k0, e9⟩
    · subst e9
      obtain ⟨ka0, kb0, kc0⟩ := kd_of hx0
      have hl0 := (List.getElem?_eq_some_iff.mp hx0).1
      have gx0 := gM_top hg hx0
      have i0_0 := i0
      obtain ⟨ge0, mm0, y0, c0, w0, hy0⟩ := i0
      have c0_0 := c0
      have w0_0 := w0
      have hy0_0 := hy0
      show x_X _ 13 [some (.inr (some 0)), some (.inl c), some (.inr (some a1)), none] [.inr (some a0)] _ _
      have e9 : st_join M c = if c = 0 then st_eqmp M else if c = 1 then st_cong M else if c = 2 then st_ded M else (2, M) := by unfold st_join; rw [if_neg (fun e => e ⟨k0, k1⟩)]
      rw [e9]
      clear e9
      refine xx (xs_astore_n dm_Ma_join_13 (by decide)) ?_
      show x_X _ 14 [some (.inr (some 0)), some (.inl c), some (.inr (some a1)), some (.inr (some a0))] [] _ _
      refine xx (xs_aload_n dm_Ma_join_14 rfl) ?_
      refine xx (xs_ifnull_f dm_Ma_join_15) ?_
      refine xx (xs_aload_n dm_Ma_join_18 rfl) ?_
      refine xx (xs_ifnonnull_t (tgt := 24) dm_Ma_join_19 rfl) ?_
      refine xx (xs_iload_n dm_Ma_join_24 rfl) ?_
      by_cases e0 : c = 0
      · rw [if_pos e0]
        subst e0
        show x_X _ 25 [some (.inr (some 0)), some (.inl 0), some (.inr (some a1)), some (.inr (some a0))] [.inl 0] _ _
        refine xx (xs_tableIn (off := 27) (tgt := 52) dm_Ma_join_25 (by unfold ir; omega) (by omega) (by omega) rfl rfl) ?_
        refine xx (xs_aload_n dm_Ma_join_52 rfl) ?_
        refine xx (xs_aload_n dm_Ma_join_53 rfl) ?_
        refine xx (xs_aload_n dm_Ma_join_54 rfl) ?_
        refine xcV (as := [.inr (some a1), .inr (some a0)]) (rest := []) dm_Ma_join_55 lc_Ma_followEquation lm_Ma_122 li_Ma_followEquation (nr rfl rfl) rfl rfl m1 rfl (nl rfl) (ma_follow hg hm hx1 hx0 i1_0 i0_0 (by rw [← ka1]; exact k1) (by rw [← ka0]; exact k0)) ?_
        rintro _ h1 ⟨rfl, hmF, gF⟩
        show x_X _ 58 [some (.inr (some 0)), some (.inl 0), some (.inr (some a1)), some (.inr (some a0))] [.inl (st_eqmp M).1] _ _
        exact ⟨_, _, xb_i dm_Ma_join_58 rfl, rfl, hmF, gF⟩
      rw [if_neg e0]
      by_cases e1 : c = 1
      · rw [if_pos e1]
        subst e1
        show x_X _ 25 [some (.inr (some 0)), some (.inl 1), some (.inr (some a1)), some (.inr (some a0))] [.inl 1] _ _
        refine xx (xs_tableIn (off := 34) (tgt := 59) dm_Ma_join_25 (by unfold ir; omega) (by omega) (by omega) rfl rfl) ?_
        refine xx (xs_aload_n dm_Ma_join_59 rfl) ?_
        refine xx (xs_aload_n dm_Ma_join_60 rfl) ?_
        refine xx (xs_aload_n dm_Ma_join_61 rfl) ?_
        refine xcV (as := [.inr (some a1), .inr (some a0)]) (rest := []) dm_Ma_join_62 lc_Ma_applyEquations lm_Ma_126 li_Ma_applyEquations (nr rfl rfl) rfl rfl m1 rfl (nl rfl) (ma_apply hg hm hx1 hx0 i1_0 i0_0 (by rw [← ka1]; exact k1) (by rw [← ka0]; exact k0)) ?_
        rintro _ h1 ⟨rfl, hmF, gF⟩
        show x_X _ 65 [some (.inr (some 0)), some (.inl 1), some (.inr (some a1)), some (.inr (some a0))] [.inl (st_cong M).1] _ _
        exact ⟨_, _, xb_i dm_Ma_join_65 rfl, rfl, hmF, gF⟩
      rw [if_neg e1]
      by_cases e2 : c = 2
      · rw [if_pos e2]
        subst e2
        show x_X _ 25 [some (.inr (some 0)), some (.inl 2), some (.inr (some a1)), some (.inr (some a0))] [.inl 2] _ _
        refine xx (xs_tableIn (off := 41) (tgt := 66) dm_Ma_join_25 (by unfold ir; omega) (by omega) (by omega) rfl rfl) ?_
        refine xx (xs_aload_n dm_Ma_join_66 rfl) ?_
        refine xx (xs_aload_n dm_Ma_join_67 rfl) ?_
        refine xx (xs_aload_n dm_Ma_join_68 rfl) ?_
        refine xcV (as := [.inr (some a1), .inr (some a0)]) (rest := []) dm_Ma_join_69 lc_Ma_deduct lm_Ma_129 li_Ma_deduct (nr rfl rfl) rfl rfl m1 rfl (nl rfl) (ma_deduct hg hm hx1 hx0 i1_0 i0_0 (by rw [← ka1]; exact k1) (by rw [← ka0]; exact k0)) ?_
        rintro _ h1 ⟨rfl, hmF, gF⟩
        show x_X _ 72 [some (.inr (some 0)), some (.inl 2), some (.inr (some a1)), some (.inr (some a0))] [.inl (st_ded M).1] _ _
        exact ⟨_, _, xb_i dm_Ma_join_72 rfl, rfl, hmF, gF⟩
      rw [if_neg e2]
      refine xx (xs_tableOut (tgt := 73) dm_Ma_join_25 hr (by omega) rfl) ?_
      refine xx (xs_iconst dm_Ma_join_73) ?_
      exact ⟨_, _, xb_i dm_Ma_join_74 rfl, rfl, hm, gr_w (gr_SA G) (fun _ _ e => e) (by omega) (by omega)⟩
    · subst e9
      show x_X _ 13 [some (.inr (some 0)), some (.inl c), some (.inr (some a1)), none] [.inr none] _ _
      refine xx (xs_astore_n dm_Ma_join_13 (by decide)) ?_
      show x_X _ 14 [some (.inr (some 0)), some (.inl c), some (.inr (some a1)), some (.inr none)] [] _ _
      refine xx (xs_aload_n dm_Ma_join_14 rfl) ?_
      refine xx (xs_ifnull_f dm_Ma_join_15) ?_
      refine xx (xs_aload_n dm_Ma_join_18 rfl) ?_
      refine xx (xs_ifnonnull_f dm_Ma_join_19) ?_
      refine xx (xs_iconst dm_Ma_join_22) ?_
      rw [show st_join M c = (1, M) from if_pos (fun e => k0 e.1)]
      exact ⟨_, _, xb_i dm_Ma_join_23 rfl, rfl, hm, gr_w (gr_SA G) (fun _ _ e => e) (by omega) (by omega)⟩
  · subst e9
    show x_X _ 6 [some (.inr (some 0)), some (.inl c), none, none] [.inr none] _ _
    refine xx (xs_astore_n dm_Ma_join_6 (by decide)) ?_
    show x_X _ 7 [some (.inr (some 0)), some (.inl c), some (.inr none), none] [] _ _
    refine xx (xs_aload_n dm_Ma_join_7 rfl) ?_
    refine xx (xs_iconst dm_Ma_join_8) ?_
    refine xx (xs_iconst dm_Ma_join_9) ?_
    refine xcV (as := [.inl 0, .inl 2]) (rest := []) dm_Ma_join_10 lc_Ma_itemBelow lm_Ma_118 li_Ma_itemBelow (nr rfl rfl) rfl rfl m1 rfl (nl rfl) (ma_itemB (i := 0) hg hm rfl (by decide) (by decide)) ?_
    rintro r9 hx9 ⟨hhx9, hR⟩
    have hhx9 := hhx9.symm
    subst hhx9
    rcases hR with ⟨k0, a0, x0, hx0, e9, i0⟩ | ⟨k0, e9⟩
    · subst e9
      obtain ⟨ka0, kb0, kc0⟩ := kd_of hx0
      have hl0 := (List.getElem?_eq_some_iff.mp hx0).1
      have gx0 := gM_top hg hx0
      have i0_0 := i0
      obtain ⟨ge0, mm0, y0, c0, w0, hy0⟩ := i0
      have c0_0 := c0
      have w0_0 := w0
      have hy0_0 := hy0
      show x_X _ 13 [some (.inr (some 0)), some (.inl c), some (.inr none), none] [.inr (some a0)] _ _
      refine xx (xs_astore_n dm_Ma_join_13 (by decide)) ?_
      show x_X _ 14 [some (.inr (some 0)), some (.inl c), some (.inr none), some (.inr (some a0))] [] _ _
      refine xx (xs_aload_n dm_Ma_join_14 rfl) ?_
      refine xx (xs_ifnull_t (tgt := 22) dm_Ma_join_15 rfl) ?_
      refine xx (xs_iconst dm_Ma_join_22) ?_
      rw [show st_join M c = (1, M) from if_pos (fun e => k1 e.2)]
      exact ⟨_, _, xb_i dm_Ma_join_23 rfl, rfl, hm, gr_w (gr_SA G) (fun _ _ e => e) (by omega) (by omega)⟩
    · subst e9
      show x_X _ 13 [some (.inr (some 0)), some (.inl c), some (.inr none), none] [.inr none] _ _
      refine xx (xs_astore_n dm_Ma_join_13 (by decide)) ?_
      show x_X _ 14 [some (.inr (some 0)), some (.inl c), some (.inr none), some (.inr none)] [] _ _
      refine xx (xs_aload_n dm_Ma_join_14 rfl) ?_
      refine xx (xs_ifnull_t (tgt := 22) dm_Ma_join_15 rfl) ?_
      refine xx (xs_iconst dm_Ma_join_22) ?_
      rw [show st_join M c = (1, M) from if_pos (fun e => k1 e.2)]
      exact ⟨_, _, xb_i dm_Ma_join_23 rfl, rfl, hm, gr_w (gr_SA G) (fun _ _ e => e) (by omega) (by omega)⟩
set_option maxHeartbeats 4000000 in
set_option maxRecDepth 100000 in
theorem ma_absThm {h : xH} {M : mS} (hg : gM M) (hm : cM h M) : x_Mx mm_Ma_absThm [.inr (some 0)] h (clP 250 1500 h (st_absT M)) := by
  refine xmx rfl (nl rfl) ?_
  have hm0 := hm
  have m1 := hm.1
  have G := gr_rf pS h
  show x_X _ 0 [some (.inr (some 0)), none, none, none, none, none, none] [] _ _
  have g6 := hg.2.2.2.2.2.1
  refine xx (xs_aload_n dm_Ma_absThm_0 rfl) ?_
  refine xx (xs_iconst dm_Ma_absThm_1) ?_
  refine xcV (as := [.inl 1]) (rest := []) dm_Ma_absThm_2 lc_Ma_variableBelow lm_Ma_91 li_Ma_variableBelow (nr rfl rfl) rfl rfl m1 rfl (nl rfl) (ma_varB (i := 1) hg hm rfl (by decide)) ?_
  rintro r9 hx9 ⟨hhx9, hR⟩
  have hhx9 := hhx9.symm
  subst hhx9
  rcases hR with ⟨k1, a1, x1, hx1, e9, w1⟩ | ⟨k1, e9⟩
  · subst e9
    obtain ⟨ka1, kb1, kc1⟩ := kd_of hx1
    have hl1 := (List.getElem?_eq_some_iff.mp hx1).1
    have gx1 := gM_top hg hx1
    have w1_0 := w1
    show x_X _ 5 [some (.inr (some 0)), none, none, none, none, none, none] [.inr (some a1)] _ _
    refine xx (xs_astore_n dm_Ma_absThm_5 (by decide)) ?_
    show x_X _ 6 [some (.inr (some 0)), some (.inr (some a1)), none, none, none, none, none] [] _ _
    refine xx (xs_aload_n dm_Ma_absThm_6 rfl) ?_
    refine xx (xs_iconst dm_Ma_absThm_7) ?_
    refine xx (xs_iconst dm_Ma_absThm_8) ?_
    refine xcV (as := [.inl 0, .inl 2]) (rest := []) dm_Ma_absThm_9 lc_Ma_itemBelow lm_Ma_118 li_Ma_itemBelow (nr rfl rfl) rfl rfl m1 rfl (nl rfl) (ma_itemB (i := 0) hg hm rfl (by decide) (by decide)) ?_
    rintro r9 hx9 ⟨hhx9, hR⟩
    have hhx9 := hhx9.symm
    subst hhx9
    rcases hR with ⟨k0, a0, x0, hx0, e9, i0⟩ | ⟨k0, e9⟩
    · subst e9
      obtain ⟨ka0, kb0, kc0⟩ := kd_of hx0
      have hl0 := (List.getElem?_eq_some_iff.mp hx0).1
      have gx0 := gM_top hg hx0
      have i0_0 := i0
      obtain ⟨ge0, mm0, y0, c0, w0, hy0⟩ := i0
      have c0_0 := c0
      have w0_0 := w0
      have hy0_0 := hy0
      show x_X _ 12 [some (.inr (some 0)), some (.inr (some a1)), none, none, none, none, none] [.inr (some a0)] _ _
      obtain ⟨t0, l0, n0, s0, hh0⟩ := gO_2 gx0 (by rw [← ka0]; exact k0)
      obtain ⟨n, c, ev, tc, nn0, nn7⟩ := vb_of hg hx1 k1
      have ev : x1.2.1 = 10 :: n :: c := ev
      obtain ⟨⟨ty1, t1⟩, l1, -⟩ := gO_1 gx1 (by rw [← ka1]; exact k1.1)
      rw [ev] at w1 w1_0 l1
      have tv : isTm [] (10 :: n :: c) c := isTm_v nn0 nn7 tc
      have l1' : c.length + 2 ≤ 40 := by simpa using l1
      have est : st_absT M = ifc (isE x0.2.1) (ifc (∃ h ∈ x0.2.2, frC (10 :: n :: c) h) (3, M) (fin9 M 2 (2, (abE (10 :: n :: c) (eqx x0.2.1)).take 81, x0.2.2))) (2, M) := by
        unfold st_absT
        rw [ifc_t ⟨k1, k0⟩, kb1, kb0, kc0, ev, ← fin9_fi (Or.inr rfl) (hR_self (gH_g gx0 (by rw [← ka0]; exact k0))) (by omega)]
      rw [est]
      refine xx (xs_astore_n dm_Ma_absThm_12 (by decide)) ?_
      show x_X _ 13 [some (.inr (some 0)), some (.inr (some a1)), some (.inr (some a0)), none, none, none, none] [] _ _
      refine xx (xs_aload_n dm_Ma_absThm_13 rfl) ?_
      refine xx (xs_ifnull_f dm_Ma_absThm_14) ?_
      refine xx (xs_aload_n dm_Ma_absThm_17 rfl) ?_
      refine xx (xs_ifnonnull_t (tgt := 23) dm_Ma_absThm_18 rfl) ?_
      refine xx (xs_aload_n dm_Ma_absThm_23 rfl) ?_
      refine xx (xs_aload_n dm_Ma_absThm_24 rfl) ?_
      refine xx (xs_getf dm_Ma_absThm_25 lf_Ma_132 c0 rfl) ?_
      refine xcV (as := [.inr (some mm0)]) (rest := []) dm_Ma_absThm_28 lc_Ma_equationIn lm_Ma_136 li_Ma_equationIn (nr rfl rfl) rfl rfl m1 rfl (nl rfl) (ma_eqIn hm w0 t0) ?_
      rintro r9 h1 (⟨Ea, ea, pa, qa, sa, e9, gea, eca, rpa, rqa, rsa, hmE, gEa⟩ | ⟨Ea, e9, hh9⟩)
      · subst e9
        have hm := hmE
        clear hmE
        have G := gr_tr G gEa (fun _ _ e => e) (Nat.le_refl _) (Nat.le_refl _)
        have w1 := rwA_S w1_0 G
        have c0 := ce_S c0_0 G (by omega)
        have w0 := rwA_S w0_0 G
        have hy0 := hyA_S hy0_0 G
        have m1 := hm.1
        show x_X _ 31 [some (.inr (some 0)), some (.inr (some a1)), some (.inr (some a0)), none, none, none, none] [.inr (some ea)] _ _
        have hq := eqx_p t0 Ea
        have hlen := eqP_len hq
        obtain ⟨P, eP⟩ : ∃ P, P = eqx x0.2.1 := ⟨_, rfl⟩
        rw [← eP] at hq hlen rpa rqa rsa
        rw [ifc_t Ea, ← eP]
        refine xx (xs_astore_n dm_Ma_absThm_31 (by decide)) ?_
        show x_X _ 32 [some (.inr (some 0)), some (.inr (some a1)), some (.inr (some a0)), some (.inr (some ea)), none, none, none] [] _ _
        refine xx (xs_aload_n dm_Ma_absThm_32 rfl) ?_
        refine xx (xs_ifnonnull_t (tgt := 38) dm_Ma_absThm_33 rfl) ?_
        refine xx (xs_aload_n dm_Ma_absThm_38 rfl) ?_
        refine xx (xs_getf dm_Ma_absThm_39 lf_Ma_140 c0 rfl) ?_
        refine xx (xs_aload_n dm_Ma_absThm_42 rfl) ?_
        obtain ⟨yf, yc⟩ := hyA_c hy0
        by_cases hfr : ∃ h ∈ x0.2.2, frC (10 :: n :: c) h
        · rw [ifc_t hfr]
          refine xcV (as := [.inr (some a1)]) (rest := []) dm_Ma_absThm_43 lc_Hy_haveFree lm_Ma_143 li_Hy_haveFree (nr rfl rfl) rfl rfl yc rfl (nl rfl) (hy_haveFree (R := 1) hy0 w1 (nn_ne (nn_tm tv)) (by simp) (fun _ => rfl) (fun e => absurd hfr e)) ?_
          rintro _ hx9 ⟨rfl, hhx9⟩
          have hhx9 := hhx9.symm
          subst hhx9
          show x_X _ 46 [some (.inr (some 0)), some (.inr (some a1)), some (.inr (some a0)), some (.inr (some ea)), none, none, none] [.inl 1] _ _
          refine xx (xs_if_eq_f (tgt := 51) dm_Ma_absThm_46 rfl (by unfold ir; omega) (by omega)) ?_
          refine xx (xs_iconst dm_Ma_absThm_49) ?_
          exact ⟨_, _, xb_i dm_Ma_absThm_50 rfl, rfl, hm, gr_w (gr_SA G) (fun _ _ e => e) (by omega) (by omega)⟩
        · rw [ifc_f hfr]
          refine xcV (as := [.inr (some a1)]) (rest := []) dm_Ma_absThm_43 lc_Hy_haveFree lm_Ma_143 li_Hy_haveFree (nr rfl rfl) rfl rfl yc rfl (nl rfl) (hy_haveFree (R := 0) hy0 w1 (nn_ne (nn_tm tv)) (by simp) (fun e => absurd e hfr) (fun _ => rfl)) ?_
          rintro _ hx9 ⟨rfl, hhx9⟩
          have hhx9 := hhx9.symm
          subst hhx9
          show x_X _ 46 [some (.inr (some 0)), some (.inr (some a1)), some (.inr (some a0)), some (.inr (some ea)), none, none, none] [.inl 0] _ _
          refine xx (xs_if_eq_t (tgt := 51) dm_Ma_absThm_46 rfl (by unfold ir; omega) (by omega)) ?_
          refine xx (xs_aload_n dm_Ma_absThm_51 rfl) ?_
          refine xx (xs_getf dm_Ma_absThm_52 lf_Ma_10 m1 rfl) ?_
          refine xx (xs_aload_n dm_Ma_absThm_55 rfl) ?_
          refine xx (xs_aload_n dm_Ma_absThm_56 rfl) ?_
          refine xx (xs_getf dm_Ma_absThm_57 lf_Ma_147 eca rfl) ?_
          refine xcV (as := [.inr (some a1), .inr (some qa)]) (rest := []) dm_Ma_absThm_60 lc_Sc_abstraction lm_Ma_94 li_Sc_abstraction (nr rfl rfl) rfl rfl (scP_c hm.2.1.1).choose_spec rfl (nl rfl) (sk_abs hm rqa w1 tc ⟨nn0, nn7⟩ (by omega)) ?_
          rintro _ h2 ⟨bl, rfl, hm, vl, gl⟩
          have eca := ce_S eca gl (by omega)
          have rpa := rwA_S rpa gl
          have rqa := rwA_S rqa gl
          have rsa := rwA_S rsa gl
          have G := gr_tr G gl (fun _ _ e => e) (Nat.le_refl _) (Nat.le_refl _)
          have w1 := rwA_S w1_0 G
          have c0 := ce_S c0_0 G (by omega)
          have w0 := rwA_S w0_0 G
          have hy0 := hyA_S hy0_0 G
          have m1 := hm.1
          show x_X _ 63 [some (.inr (some 0)), some (.inr (some a1)), some (.inr (some a0)), some (.inr (some ea)), none, none, none] [.inr (some bl)] _ _
          refine xx (xs_astore dm_Ma_absThm_63 (by decide)) ?_
          show x_X _ 65 [some (.inr (some 0)), some (.inr (some a1)), some (.inr (some a0)), some (.inr (some ea)), some (.inr (some bl)), none, none] [] _ _
          refine xx (xs_aload_n dm_Ma_absThm_65 rfl) ?_
          refine xx (xs_getf dm_Ma_absThm_66 lf_Ma_10 m1 rfl) ?_
          refine xx (xs_aload_n dm_Ma_absThm_69 rfl) ?_
          refine xx (xs_aload_n dm_Ma_absThm_70 rfl) ?_
          refine xx (xs_getf dm_Ma_absThm_71 lf_Ma_152 eca rfl) ?_
          refine xcV (as := [.inr (some a1), .inr (some sa)]) (rest := []) dm_Ma_absThm_74 lc_Sc_abstraction lm_Ma_94 li_Sc_abstraction (nr rfl rfl) rfl rfl (scP_c hm.2.1.1).choose_spec rfl (nl rfl) (sk_abs hm rsa w1 tc ⟨nn0, nn7⟩ (by omega)) ?_
          rintro _ h3 ⟨br, rfl, hm, vr, gr⟩
          have eca := ce_S eca gr (by omega)
          have rpa := rwA_S rpa gr
          have rqa := rwA_S rqa gr
          have rsa := rwA_S rsa gr
          have vl := rwA_S vl gr
          have G := gr_tr G gr (fun _ _ e => e) (Nat.le_refl _) (Nat.le_refl _)
          have w1 := rwA_S w1_0 G
          have c0 := ce_S c0_0 G (by omega)
          have w0 := rwA_S w0_0 G
          have hy0 := hyA_S hy0_0 G
          have m1 := hm.1
          show x_X _ 77 [some (.inr (some 0)), some (.inr (some a1)), some (.inr (some a0)), some (.inr (some ea)), some (.inr (some bl)), none, none] [.inr (some br)] _ _
          refine xx (xs_astore dm_Ma_absThm_77 (by decide)) ?_
          show x_X _ 79 [some (.inr (some 0)), some (.inr (some a1)), some (.inr (some a0)), some (.inr (some ea)), some (.inr (some bl)), some (.inr (some br)), none] [] _ _
          refine xx (xs_aload_n dm_Ma_absThm_79 rfl) ?_
          refine xx (xs_getf dm_Ma_absThm_80 lf_Ma_10 m1 rfl) ?_
          refine xx (xs_aload_n dm_Ma_absThm_83 rfl) ?_
          refine xx (xs_getf dm_Ma_absThm_84 lf_Ma_10 m1 rfl) ?_
          refine xx (xs_aload_n dm_Ma_absThm_87 rfl) ?_
          refine xcV (as := [.inr (some a1)]) (rest := [.inr (some 1)]) dm_Ma_absThm_88 lc_Sc_typeOf lm_Ma_80 li_Sc_typeOf (nr rfl rfl) rfl rfl (scP_c hm.2.1.1).choose_spec rfl (nl rfl) (sk_ty hm w1 (by simpa using l1) tv) ?_
          rintro _ h4 ⟨bv, rfl, hm, vv, gv⟩
          have eca := ce_S eca gv (by omega)
          have rpa := rwA_S rpa gv
          have rqa := rwA_S rqa gv
          have rsa := rwA_S rsa gv
          have vl := rwA_S vl gv
          have vr := rwA_S vr gv
          have G := gr_tr G gv (fun _ _ e => e) (Nat.le_refl _) (Nat.le_refl _)
          have w1 := rwA_S w1_0 G
          have c0 := ce_S c0_0 G (by omega)
          have w0 := rwA_S w0_0 G
          have hy0 := hyA_S hy0_0 G
          have m1 := hm.1
          show x_X _ 91 [some (.inr (some 0)), some (.inr (some a1)), some (.inr (some a0)), some (.inr (some ea)), some (.inr (some bl)), some (.inr (some br)), none] [.inr (some bv), .inr (some 1)] _ _
          refine xx (xs_aload_n dm_Ma_absThm_91 rfl) ?_
          refine xx (xs_getf dm_Ma_absThm_92 lf_Ma_155 eca rfl) ?_
          refine xcV (as := [.inr (some bv), .inr (some pa)]) (rest := []) dm_Ma_absThm_95 lc_Sc_functionType lm_Ma_69 li_Sc_functionType (nr rfl rfl) rfl rfl (scP_c hm.2.1.1).choose_spec rfl (nl rfl) (sk_fun hm vv rpa) ?_
          rintro _ h5 ⟨bf, rfl, hm, vf, gf⟩
          have eca := ce_S eca gf (by omega)
          have rpa := rwA_S rpa gf
          have rqa := rwA_S rqa gf
          have rsa := rwA_S rsa gf
          have vl := rwA_S vl gf
          have vr := rwA_S vr gf
          have vv := rwA_S vv gf
          have G := gr_tr G gf (fun _ _ e => e) (Nat.le_refl _) (Nat.le_refl _)
          have w1 := rwA_S w1_0 G
          have c0 := ce_S c0_0 G (by omega)
          have w0 := rwA_S w0_0 G
          have hy0 := hyA_S hy0_0 G
          have m1 := hm.1
          show x_X _ 98 [some (.inr (some 0)), some (.inr (some a1)), some (.inr (some a0)), some (.inr (some ea)), some (.inr (some bl)), some (.inr (some br)), none] [.inr (some bf)] _ _
          rw [List.take_of_length_le (by simp; omega)] at vf
          refine xx (xs_astore dm_Ma_absThm_98 (by decide)) ?_
          show x_X _ 100 [some (.inr (some 0)), some (.inr (some a1)), some (.inr (some a0)), some (.inr (some ea)), some (.inr (some bl)), some (.inr (some br)), some (.inr (some bf))] [] _ _
          refine xx (xs_aload_n dm_Ma_absThm_100 rfl) ?_
          refine xx (xs_iconst dm_Ma_absThm_101) ?_
          refine xx (xs_aload_n dm_Ma_absThm_102 rfl) ?_
          refine xx (xs_getf dm_Ma_absThm_103 lf_Ma_140 c0 rfl) ?_
          refine xx (xs_aload_n dm_Ma_absThm_106 rfl) ?_
          refine xx (xs_getf dm_Ma_absThm_107 lf_Ma_10 m1 rfl) ?_
          refine xx (xs_aload dm_Ma_absThm_110 rfl) ?_
          refine xx (xs_aload dm_Ma_absThm_112 rfl) ?_
          refine xx (xs_aload dm_Ma_absThm_114 rfl) ?_
          refine xcV (as := [.inr (some bf), .inr (some bl), .inr (some br)]) (rest := [.inr (some y0), .inl 2, .inr (some 0)]) dm_Ma_absThm_116 lc_Sc_equation lm_Ma_97 li_Sc_equation (nr rfl rfl) rfl rfl (scP_c hm.2.1.1).choose_spec rfl (nl rfl) (sk_eq hm vf vl vr) ?_
          rintro _ h6 ⟨be, rfl, hm, ve, ge⟩
          have eca := ce_S eca ge (by omega)
          have rpa := rwA_S rpa ge
          have rqa := rwA_S rqa ge
          have rsa := rwA_S rsa ge
          have vl := rwA_S vl ge
          have vr := rwA_S vr ge
          have vv := rwA_S vv ge
          have vf := rwA_S vf ge
          have G := gr_tr G ge (fun _ _ e => e) (Nat.le_refl _) (Nat.le_refl _)
          have w1 := rwA_S w1_0 G
          have c0 := ce_S c0_0 G (by omega)
          have w0 := rwA_S w0_0 G
          have hy0 := hyA_S hy0_0 G
          have m1 := hm.1
          show x_X _ 119 [some (.inr (some 0)), some (.inr (some a1)), some (.inr (some a0)), some (.inr (some ea)), some (.inr (some bl)), some (.inr (some br)), some (.inr (some bf))] [.inr (some be), .inr (some y0), .inl 2, .inr (some 0)] _ _
          have ee : (eqn (0 :: (c ++ P.1)) ((13 :: (c ++ absC (10 :: n :: c) P.2.1 ([], 1) 0)).take 81) ((13 :: (c ++ absC (10 :: n :: c) P.2.2 ([], 1) 0)).take 81)).take 81 = (abE (10 :: n :: c) P).take 81 := by
            rw [eqn_tk2, eqn_tk1]
            rfl
          rw [ee] at ve
          refine xcV (as := [.inl 2, .inr (some y0), .inr (some be)]) (rest := []) dm_Ma_absThm_119 lc_Ma_finishTheorem lm_Ma_101 li_Ma_finishTheorem (nr rfl rfl) rfl rfl m1 rfl (nl rfl) (ma_fTh (n := 2) hg hm hy0 ve rfl (by decide)) ?_
          rintro _ h7 ⟨rfl, hmF, gF⟩
          show x_X _ 122 [some (.inr (some 0)), some (.inr (some a1)), some (.inr (some a0)), some (.inr (some ea)), some (.inr (some bl)), some (.inr (some br)), some (.inr (some bf))] [.inl (fin9 M 2 (2, (abE (10 :: n :: c) P).take 81, x0.2.2)).1] _ _
          exact ⟨_, _, xb_i dm_Ma_absThm_122 rfl, rfl, hmF, gr_w (gr_tr (gr_SA G) gF (fun _ _ e => e) (Nat.le_refl _) (Nat.le_refl _)) (fun _ _ e => e) (by omega) (by omega)⟩
      · subst e9
        have hh9 := hh9.symm
        subst hh9
        show x_X _ 31 [some (.inr (some 0)), some (.inr (some a1)), some (.inr (some a0)), none, none, none, none] [.inr none] _ _
        rw [ifc_f Ea]
        refine xx (xs_astore_n dm_Ma_absThm_31 (by decide)) ?_
        show x_X _ 32 [some (.inr (some 0)), some (.inr (some a1)), some (.inr (some a0)), some (.inr none), none, none, none] [] _ _
        refine xx (xs_aload_n dm_Ma_absThm_32 rfl) ?_
        refine xx (xs_ifnonnull_f dm_Ma_absThm_33) ?_
        refine xx (xs_iconst dm_Ma_absThm_36) ?_
        exact ⟨_, _, xb_i dm_Ma_absThm_37 rfl, rfl, hm, gr_w (gr_SA G) (fun _ _ e => e) (by omega) (by omega)⟩
    · subst e9
      show x_X _ 12 [some (.inr (some 0)), some (.inr (some a1)), none, none, none, none, none] [.inr none] _ _
      refine xx (xs_astore_n dm_Ma_absThm_12 (by decide)) ?_
      show x_X _ 13 [some (.inr (some 0)), some (.inr (some a1)), some (.inr none), none, none, none, none] [] _ _
      refine xx (xs_aload_n dm_Ma_absThm_13 rfl) ?_
      refine xx (xs_ifnull_f dm_Ma_absThm_14) ?_
      refine xx (xs_aload_n dm_Ma_absThm_17 rfl) ?_
      refine xx (xs_ifnonnull_f dm_Ma_absThm_18) ?_
      refine xx (xs_iconst dm_Ma_absThm_21) ?_
      rw [show st_absT M = (1, M) from ifc_f (fun e => k0 e.2) _ _]
      exact ⟨_, _, xb_i dm_Ma_absThm_22 rfl, rfl, hm, gr_w (gr_SA G) (fun _ _ e => e) (by omega) (by omega)⟩
  · subst e9
    show x_X _ 5 [some (.inr (some 0)), none, none, none, none, none, none] [.inr none] _ _
    refine xx (xs_astore_n dm_Ma_absThm_5 (by decide)) ?_
    show x_X _ 6 [some (.inr (some 0)), some (.inr none), none, none, none, none, none] [] _ _
    refine xx (xs_aload_n dm_Ma_absThm_6 rfl) ?_
    refine xx (xs_iconst dm_Ma_absThm_7) ?_
    refine xx (xs_iconst dm_Ma_absThm_8) ?_
    refine xcV (as := [.inl 0, .inl 2]) (rest := []) dm_Ma_absThm_9 lc_Ma_itemBelow lm_Ma_118 li_Ma_itemBelow (nr rfl rfl) rfl rfl m1 rfl (nl rfl) (ma_itemB (i := 0) hg hm rfl (by decide) (by decide)) ?_
    rintro r9 hx9 ⟨hhx9, hR⟩
    have hhx9 := hhx9.symm
    subst hhx9
    rcases hR with ⟨k0, a0, x0, hx0, e9, i0⟩ | ⟨k0, e9⟩
    · subst e9
      obtain ⟨ka0, kb0, kc0⟩ := kd_of hx0
      have hl0 := (List.getElem?_eq_some_iff.mp hx0).1
      have gx0 := gM_top hg hx0
      have i0_0 := i0
      obtain ⟨ge0, mm0, y0, c0, w0, hy0⟩ := i0
      have c0_0 := c0
      have w0_0 := w0
      have hy0_0 := hy0
      show x_X _ 12 [some (.inr (some 0)), some (.inr none), none, none, none, none, none] [.inr (some a0)] _ _
      refine xx (xs_astore_n dm_Ma_absThm_12 (by decide)) ?_
      show x_X _ 13 [some (.inr (some 0)), some (.inr none), some (.inr (some a0)), none, none, none, none] [] _ _
      refine xx (xs_aload_n dm_Ma_absThm_13 rfl) ?_
      refine xx (xs_ifnull_t (tgt := 21) dm_Ma_absThm_14 rfl) ?_
      refine xx (xs_iconst dm_Ma_absThm_21) ?_
      rw [show st_absT M = (1, M) from ifc_f (fun e => k1 e.1) _ _]
      exact ⟨_, _, xb_i dm_Ma_absThm_22 rfl, rfl, hm, gr_w (gr_SA G) (fun _ _ e => e) (by omega) (by omega)⟩
    · subst e9
      show x_X _ 12 [some (.inr (some 0)), some (.inr none), none, none, none, none, none] [.inr none] _ _
      refine xx (xs_astore_n dm_Ma_absThm_12 (by decide)) ?_
      show x_X _ 13 [some (.inr (some 0)), some (.inr none), some (.inr none), none, none, none, none] [] _ _
      refine xx (xs_aload_n dm_Ma_absThm_13 rfl) ?_
      refine xx (xs_ifnull_t (tgt := 21) dm_Ma_absThm_14 rfl) ?_
      refine xx (xs_iconst dm_Ma_absThm_21) ?_
      rw [show st_absT M = (1, M) from ifc_f (fun e => k1 e.1) _ _]
      exact ⟨_, _, xb_i dm_Ma_absThm_22 rfl, rfl, hm, gr_w (gr_SA G) (fun _ _ e => e) (by omega) (by omega)⟩
