/-! theorem -/
theorem ty_1 {ty : List Int} (h : isTy ty) (e : atL ty 0 = 1) : ty = [1] := by
  rcases isTy_inv h with e1 | ⟨k, k1, k2, e1⟩ | ⟨a, b, _, _, e1⟩
  · exact e1
  · rw [e1, atL_0] at e; omega
  · rw [e1, atL_0] at e; omega
theorem insC_1 (l : List Int) : insC l [] = [l] := by
  unfold insC
  rw [if_neg (by simp)]
  simp [insA, plc]
theorem eqn_tk1 (a l r : List Int) : (eqn a (l.take 81) r).take 81 = (eqn a l r).take 81 := by
  have := tk1 (12 :: 12 :: 11 :: 0 :: a) l r 81
  simpa [eqn] using this
theorem eqn_tk2 (a l r : List Int) : (eqn a l (r.take 81)).take 81 = (eqn a l r).take 81 := by
  have := tk2 (12 :: 12 :: 11 :: 0 :: (a ++ l)) r 81
  simpa [eqn] using this
set_option maxHeartbeats 4000000 in
set_option maxRecDepth 100000 in
theorem ma_assume {h : xH} {M : mS} {a : Nat} {x0 : oB} {ty : List Int} (hg : gM M) (hm : cM h M) (hx0 : M.1[0]? = some x0) (w0 : rwA h a x0.2.1) (t0 : isTm [] x0.2.1 ty) (l0 : x0.2.1.length ≤ 40) : x_Mx mm_Ma_assume [.inr (some 0), .inr (some a)] h (clP 250 1500 h (st_assume M)) := by
  refine xmx rfl (nl rfl) ?_
  have hm0 := hm
  have m1 := hm.1
  have G := gr_rf pS h
  show x_X _ 0 [some (.inr (some 0)), some (.inr (some a)), none] [] _ _
  have w0_0 := w0
  obtain ⟨ka0, kb0, kc0⟩ := kd_of hx0
  have hl0 := (List.getElem?_eq_some_iff.mp hx0).1
  have g6 := hg.2.2.2.2.2.1
  have g10 := hg.2.2.2.2.2.2.2.2.2
  rw [show st_assume M = ifc (ty = [1]) (fi M 1 (2, x0.2.1, [x0.2.1]) false) (2, M) by unfold st_assume; rw [kb0, tyO_of t0]]
  refine xx (xs_aload_n dm_Ma_assume_0 rfl) ?_
  refine xx (xs_getf dm_Ma_assume_1 lf_Ma_10 m1 rfl) ?_
  refine xx (xs_aload_n dm_Ma_assume_4 rfl) ?_
  refine xcV (as := [.inr (some a)]) (rest := []) dm_Ma_assume_5 lc_Sc_typeOf lm_Ma_80 li_Sc_typeOf (nr rfl rfl) rfl rfl (scP_c hm.2.1.1).choose_spec rfl (nl rfl) (sk_ty hm w0 l0 t0) ?_
  rintro _ h1 ⟨bt, rfl, hm, vt, gt⟩
  have G := gr_tr G gt (fun _ _ e => e) (Nat.le_refl _) (Nat.le_refl _)
  have w0 := rwA_S w0_0 G
  have m1 := hm.1
  show x_X _ 8 [some (.inr (some 0)), some (.inr (some a)), none] [.inr (some bt)] _ _
  refine xx (xs_iconst dm_Ma_assume_8) ?_
  obtain ⟨tf, tc⟩ := rwA_c vt
  refine xcV (as := [.inl 0]) (rest := []) dm_Ma_assume_9 lc_Ro_at lm_Ma_211 li_Ro_at (nr rfl rfl) rfl rfl tc rfl (nl rfl) (ro_at vt (by unfold ir; omega)) ?_
  rintro _ hx9 ⟨rfl, hhx9⟩
  have hhx9 := hhx9.symm
  subst hhx9
  show x_X _ 12 [some (.inr (some 0)), some (.inr (some a)), none] [.inl (atL ty 0)] _ _
  refine xx (xs_iconst dm_Ma_assume_12) ?_
  refine xx_icmp_eq (tgt := 18) dm_Ma_assume_13 rfl (atL_ir vt.2.1 _) (by unfold ir; omega) (fun hc => ?_) (fun hc => ?_)
  · change x_X _ 18 _ _ _ _
    have e1 := ty_1 (isTm_ty t0) hc
    subst e1
    rw [ifc_t rfl, show fi M 1 (2, x0.2.1, [x0.2.1]) false = fin9 M 1 (2, x0.2.1, [x0.2.1]) from (ifc_t ⟨⟨l0, by simp, fun v hv => by rw [List.mem_singleton] at hv; rw [hv]; exact l0⟩, by omega⟩ _ _).symm]
    refine xx (xs_new dm_Ma_assume_18 ln_Ma_43) ?_
    obtain ⟨aH, eaH⟩ : ∃ a, a = h1.1.length := ⟨_, rfl⟩
    rw [← eaH]
    obtain ⟨h2, hh2⟩ : ∃ hX : xH, hX = (h1.1 ++ [.inr (.inr (2, [.inr none, .inl 0]))], h1.2 + 2) := ⟨_, rfl⟩
    show x_X _ 21 [some (.inr (some 0)), some (.inr (some a)), none] [.inr (some aH)] (h1.1 ++ [.inr (.inr (2, [.inr none, .inl 0]))], h1.2 + 2) _
    rw [← hh2]
    have caH : h2.1[aH]? = some (.inr (.inr (2, [.inr none, .inl 0]))) := by rw [hh2, eaH]; exact push_at
    have gAH : gr (fun _ => False) 1 2 h1 h2 := by rw [hh2]; exact gr_push _
    have leH : h2.1.length = h1.1.length + 1 := by rw [hh2]; simp
    have gaH : 23 ≤ aH := by rw [eaH]; exact hm.2.2.2.2.2.2.2.2
    have gbH : h.1.length ≤ aH := by rw [eaH]; exact G.1.1
    refine xx (xs_dup dm_Ma_assume_21) ?_
    refine xcI (as := []) (rest := [.inr (some aH)]) dm_Ma_assume_22 lc_Hy_init lm_Ma_45 li_Hy_init (nr rfl rfl) rfl rfl (nl rfl) (hy_init caH) ?_
    rintro _ h3 ⟨FH, gBH⟩
    show x_X _ 25 [some (.inr (some 0)), some (.inr (some a)), none] [.inr (some aH)] _ _
    obtain ⟨rH, erH⟩ : ∃ r, r = h2.1.length := ⟨_, rfl⟩
    rw [← erH] at FH
    have gCH : gr (fun _ => False) 2 8 h1 h3 := gr_tr gAH (P' := fun i => i = aH) gBH (fun i hi e => by have : i = aH := e; omega) (Nat.le_refl _) (Nat.le_refl _)
    have hm := cM_new hm gCH
    have gSH := gr_S gCH (fun i e => e.elim)
    have vt := rwA_S vt gSH
    have G := gr_tr G gSH (fun _ _ e => e) (Nat.le_refl _) (Nat.le_refl _)
    have w0 := rwA_S w0_0 G
    have m1 := hm.1
    refine xx (xs_astore_n dm_Ma_assume_25 (by decide)) ?_
    show x_X _ 26 [some (.inr (some 0)), some (.inr (some a)), some (.inr (some aH))] [] _ _
    refine xx (xs_aload_n dm_Ma_assume_26 rfl) ?_
    refine xx (xs_aload_n dm_Ma_assume_27 rfl) ?_
    refine xcV (as := [.inr (some a)]) (rest := []) dm_Ma_assume_28 lc_Hy_add lm_Ma_170 li_Hy_add (nr rfl rfl) rfl rfl FH.1 rfl (nl rfl) (hy_add FH w0 (by simp) (nn_tm t0)) ?_
    rintro _ h4 ⟨rfl, ⟨qH, F9⟩, g9⟩
    have vt := rwA_h vt g9 FH.1 FH.2.1
    have G := gr_tr G g9 (fun i hi e => by exfalso; rcases e with e | e <;> omega) (Nat.le_refl _) (Nat.le_refl _)
    have hm := cM_gr hm0 G (cP_h hm.2.1 g9 (by omega) (by omega)) (fun _ e => e)
    clear g9
    have FH := F9
    clear F9
    have w0 := rwA_S w0_0 G
    have m1 := hm.1
    show x_X _ 31 [some (.inr (some 0)), some (.inr (some a)), some (.inr (some aH))] [] _ _
    refine xx (xs_aload_n dm_Ma_assume_31 rfl) ?_
    refine xx (xs_iconst dm_Ma_assume_32) ?_
    refine xx (xs_aload_n dm_Ma_assume_33 rfl) ?_
    refine xx (xs_aload_n dm_Ma_assume_34 rfl) ?_
    rw [insC_1] at FH
    refine xcV (as := [.inl 1, .inr (some aH), .inr (some a)]) (rest := []) dm_Ma_assume_35 lc_Ma_finishTheorem lm_Ma_101 li_Ma_finishTheorem (nr rfl rfl) rfl rfl m1 rfl (nl rfl) (ma_fTh (n := 1) hg hm (hyF_A FH (by omega) (by omega)) w0 rfl (by decide)) ?_
    rintro _ h5 ⟨rfl, hmF, gF⟩
    show x_X _ 38 [some (.inr (some 0)), some (.inr (some a)), some (.inr (some aH))] [.inl (fin9 M 1 (2, x0.2.1, [x0.2.1])).1] _ _
    exact ⟨_, _, xb_i dm_Ma_assume_38 rfl, rfl, hmF, gr_w (gr_tr (gr_SA G) gF (fun _ _ e => e) (Nat.le_refl _) (Nat.le_refl _)) (fun _ _ e => e) (by omega) (by omega)⟩
  · change x_X _ 16 _ _ _ _
    rw [ifc_f (fun e => hc (by rw [e]; exact atL_0))]
    refine xx (xs_iconst dm_Ma_assume_16) ?_
    exact ⟨_, _, xb_i dm_Ma_assume_17 rfl, rfl, hm, gr_w (gr_SA G) (fun _ _ e => e) (by omega) (by omega)⟩
theorem is_bx {t : List Int} (h0 : atL t 0 = 12) (h1 : atL t 1 = 13) : ∃ r, t = 12 :: 13 :: r := by
  rcases t with _ | ⟨a, _ | ⟨b, r⟩⟩
  · rw [atL_o (by simp)] at h0; omega
  · rw [atL_o (by simp)] at h1; omega
  · rw [atL_0] at h0
    rw [atL_1] at h1
    exact ⟨r, by rw [h0, h1]⟩
set_option maxHeartbeats 4000000 in
set_option maxRecDepth 100000 in
theorem ma_reduce {h : xH} {M : mS} {a : Nat} {x0 : oB} {ty : List Int} (hg : gM M) (hm : cM h M) (hx0 : M.1[0]? = some x0) (w0 : rwA h a x0.2.1) (t0 : isTm [] x0.2.1 ty) (l0 : x0.2.1.length ≤ 40) : x_Mx mm_Ma_reduce [.inr (some 0), .inr (some a)] h (clP 250 1500 h (st_beta M)) := by
  refine xmx rfl (nl rfl) ?_
  have hm0 := hm
  have m1 := hm.1
  have G := gr_rf pS h
  show x_X _ 0 [some (.inr (some 0)), some (.inr (some a)), none, none, none, none, none] [] _ _
  have w0_0 := w0
  obtain ⟨ka0, kb0, kc0⟩ := kd_of hx0
  have hl0 := (List.getElem?_eq_some_iff.mp hx0).1
  have g6 := hg.2.2.2.2.2.1
  have g10 := hg.2.2.2.2.2.2.2.2.2
  obtain ⟨af, ac⟩ := rwA_c w0
  have ai := w0.2.1
  by_cases hb : ∃ r, x0.2.1 = 12 :: 13 :: r
  · obtain ⟨rr, et⟩ := hb
    obtain ⟨c, uu9, bx9, hbx⟩ := bx_of t0 et
    obtain ⟨e, tc, ⟨bb, tu⟩, tx⟩ := hbx
    rw [show st_beta M = fin9 M 1 (2, (eqn ty x0.2.1 (betC bx9 uu9 ([], 1))).take 81, []) by
      unfold st_beta
      rw [kb0, tyO_of t0, ifc_t ⟨rr, et⟩, bx_eps ⟨e, tc, ⟨bb, tu⟩, tx⟩]
      exact (fin9_0 (Or.inr rfl) (by omega)).symm]
    have e2 : x0.2.1.drop 2 = c ++ (uu9 ++ bx9) := by rw [e]; simp
    have elen : x0.2.1.length = 2 + (c.length + (uu9.length + bx9.length)) := by rw [e]; simp; omega
    have hl2 : uu9.length ≤ 40 := by omega
    have hT : tyS (x0.2.1.drop 2) 1 = some (uu9 ++ bx9) := by rw [e2]; exact (tyS_ty tc (uu9 ++ bx9) 0).trans (tyS_0 _)
    have hM2 : tmS (x0.2.1.drop (2 + c.length)) 1 = bx9 := by
      rw [← List.drop_drop, e2, List.drop_left]
      exact (tmS_tm tu bx9 0).trans (tmS_0 (by have := isTm_hdT tx []; rw [List.append_nil] at this; exact this))
    refine xx (xs_aload_n dm_Ma_reduce_0 rfl) ?_
    refine xx (xs_iconst dm_Ma_reduce_1) ?_
    refine xcV (as := [.inl 0]) (rest := []) dm_Ma_reduce_2 lc_Ro_at lm_Ma_211 li_Ro_at (nr rfl rfl) rfl rfl ac rfl (nl rfl) (ro_at w0 (by unfold ir; omega)) ?_
    rintro _ hx9 ⟨rfl, hhx9⟩
    have hhx9 := hhx9.symm
    subst hhx9
    show x_X _ 5 [some (.inr (some 0)), some (.inr (some a)), none, none, none, none, none] [.inl (atL x0.2.1 0)] _ _
    rw [show atL x0.2.1 0 = 12 by rw [et]; exact atL_0]
    show x_X _ 5 [some (.inr (some 0)), some (.inr (some a)), none, none, none, none, none] [.inl 12] _ _
    refine xx (xs_bipush dm_Ma_reduce_5 (by decide)) ?_
    refine xx (xs_icmp_ne_f (tgt := 20) dm_Ma_reduce_7 rfl (by unfold ir; omega) (by unfold ir; omega) (by omega)) ?_
    refine xx (xs_aload_n dm_Ma_reduce_10 rfl) ?_
    refine xx (xs_iconst dm_Ma_reduce_11) ?_
    refine xcV (as := [.inl 1]) (rest := []) dm_Ma_reduce_12 lc_Ro_at lm_Ma_211 li_Ro_at (nr rfl rfl) rfl rfl ac rfl (nl rfl) (ro_at w0 (by unfold ir; omega)) ?_
    rintro _ hx9 ⟨rfl, hhx9⟩
    have hhx9 := hhx9.symm
    subst hhx9
    show x_X _ 15 [some (.inr (some 0)), some (.inr (some a)), none, none, none, none, none] [.inl (atL x0.2.1 1)] _ _
    rw [show atL x0.2.1 1 = 13 by rw [et]; exact atL_1]
    show x_X _ 15 [some (.inr (some 0)), some (.inr (some a)), none, none, none, none, none] [.inl 13] _ _
    refine xx (xs_bipush dm_Ma_reduce_15 (by decide)) ?_
    refine xx (xs_icmp_eq_t (tgt := 22) dm_Ma_reduce_17 rfl (by unfold ir; omega) (by unfold ir; omega) (by omega)) ?_
    refine xx (xs_aload_n dm_Ma_reduce_22 rfl) ?_
    refine xx (xs_iconst dm_Ma_reduce_23) ?_
    refine xcV (as := [.inl 2]) (rest := []) dm_Ma_reduce_24 lc_Ro_typeEnd lm_Ma_214 li_Ro_typeEnd (nr rfl rfl) rfl rfl ac rfl (nl rfl) (ro_typeEnd (k := 2) w0 rfl (by omega) hT) ?_
    rintro _ hx9 ⟨rfl, hhx9⟩
    have hhx9 := hhx9.symm
    subst hhx9
    show x_X _ 27 [some (.inr (some 0)), some (.inr (some a)), none, none, none, none, none] [.inl ((x0.2.1.length : Int) - ((uu9 ++ bx9).length : Int))] _ _
    rw [show (x0.2.1.length : Int) - ((uu9 ++ bx9).length : Int) = 2 + (c.length : Int) by rw [elen]; simp; omega]
    show x_X _ 27 [some (.inr (some 0)), some (.inr (some a)), none, none, none, none, none] [.inl (2 + (c.length : Int))] _ _
    refine xx (xs_istore_n dm_Ma_reduce_27 (by decide)) ?_
    show x_X _ 28 [some (.inr (some 0)), some (.inr (some a)), some (.inl (2 + (c.length : Int))), none, none, none, none] [] _ _
    refine xx (xs_aload_n dm_Ma_reduce_28 rfl) ?_
    refine xx (xs_iload_n dm_Ma_reduce_29 rfl) ?_
    refine xcV (as := [.inl (2 + (c.length : Int))]) (rest := []) dm_Ma_reduce_30 lc_Ro_termEnd lm_Ma_217 li_Ro_termEnd (nr rfl rfl) rfl rfl ac rfl (nl rfl) (ro_termEnd (k := 2 + c.length) w0 (by omega) (by omega) hM2) ?_
    rintro _ hx9 ⟨rfl, hhx9⟩
    have hhx9 := hhx9.symm
    subst hhx9
    show x_X _ 33 [some (.inr (some 0)), some (.inr (some a)), some (.inl (2 + (c.length : Int))), none, none, none, none] [.inl ((x0.2.1.length : Int) - (bx9.length : Int))] _ _
    rw [show (x0.2.1.length : Int) - (bx9.length : Int) = 2 + (c.length : Int) + (uu9.length : Int) by rw [elen]; omega]
    show x_X _ 33 [some (.inr (some 0)), some (.inr (some a)), some (.inl (2 + (c.length : Int))), none, none, none, none] [.inl (2 + (c.length : Int) + (uu9.length : Int))] _ _
    refine xx (xs_istore_n dm_Ma_reduce_33 (by decide)) ?_
    show x_X _ 34 [some (.inr (some 0)), some (.inr (some a)), some (.inl (2 + (c.length : Int))), some (.inl (2 + (c.length : Int) + (uu9.length : Int))), none, none, none] [] _ _
    refine xx (xs_aload_n dm_Ma_reduce_34 rfl) ?_
    refine xx (xs_iload_n dm_Ma_reduce_35 rfl) ?_
    refine xx (xs_iload_n dm_Ma_reduce_36 rfl) ?_
    refine xcV (as := [.inl (2 + (c.length : Int)), .inl (2 + (c.length : Int) + (uu9.length : Int))]) (rest := []) dm_Ma_reduce_37 lc_Ro_part lm_Ma_220 li_Ro_part (nr rfl rfl) rfl rfl ac rfl (nl rfl) (x_Mq (ro_part (pre := 12 :: 13 :: c) (l' := uu9) (post := bx9) w0 (by rw [e]; simp) (by simp; omega) (by simp; omega)) (fun _ _ hh => mr_f hm hh)) ?_
    rintro _ h1 ⟨bu, rfl, hm, vu, gu⟩
    have G := gr_tr G gu (fun _ _ e => e) (Nat.le_refl _) (Nat.le_refl _)
    have w0 := rwA_S w0_0 G
    have m1 := hm.1
    show x_X _ 40 [some (.inr (some 0)), some (.inr (some a)), some (.inl (2 + (c.length : Int))), some (.inl (2 + (c.length : Int) + (uu9.length : Int))), none, none, none] [.inr (some bu)] _ _
    obtain ⟨sf, ff, ac⟩ := rwA_3 w0
    refine xx (xs_astore dm_Ma_reduce_40 (by decide)) ?_
    show x_X _ 42 [some (.inr (some 0)), some (.inr (some a)), some (.inl (2 + (c.length : Int))), some (.inl (2 + (c.length : Int) + (uu9.length : Int))), some (.inr (some bu)), none, none] [] _ _
    refine xx (xs_aload_n dm_Ma_reduce_42 rfl) ?_
    refine xx (xs_iload_n dm_Ma_reduce_43 rfl) ?_
    refine xx (xs_aload_n dm_Ma_reduce_44 rfl) ?_
    refine xx (xs_getf dm_Ma_reduce_45 lf_Ma_210 ac rfl) ?_
    refine xcV (as := [.inl (2 + (c.length : Int) + (uu9.length : Int)), .inl (x0.2.1.length : Int)]) (rest := []) dm_Ma_reduce_48 lc_Ro_part lm_Ma_220 li_Ro_part (nr rfl rfl) rfl rfl ac rfl (nl rfl) (x_Mq (ro_part (pre := 12 :: 13 :: (c ++ uu9)) (l' := bx9) (post := []) w0 (by rw [e]; simp) (by simp; omega) (by simp; omega)) (fun _ _ hh => mr_f hm hh)) ?_
    rintro _ h2 ⟨bx, rfl, hm, vx, gx⟩
    have vu := rwA_S vu gx
    have G := gr_tr G gx (fun _ _ e => e) (Nat.le_refl _) (Nat.le_refl _)
    have w0 := rwA_S w0_0 G
    have m1 := hm.1
    show x_X _ 51 [some (.inr (some 0)), some (.inr (some a)), some (.inl (2 + (c.length : Int))), some (.inl (2 + (c.length : Int) + (uu9.length : Int))), some (.inr (some bu)), none, none] [.inr (some bx)] _ _
    refine xx (xs_astore dm_Ma_reduce_51 (by decide)) ?_
    show x_X _ 53 [some (.inr (some 0)), some (.inr (some a)), some (.inl (2 + (c.length : Int))), some (.inl (2 + (c.length : Int) + (uu9.length : Int))), some (.inr (some bu)), some (.inr (some bx)), none] [] _ _
    refine xx (xs_aload_n dm_Ma_reduce_53 rfl) ?_
    refine xx (xs_getf dm_Ma_reduce_54 lf_Ma_10 m1 rfl) ?_
    refine xx (xs_aload dm_Ma_reduce_57 rfl) ?_
    refine xx (xs_aload dm_Ma_reduce_59 rfl) ?_
    refine xcV (as := [.inr (some bu), .inr (some bx)]) (rest := []) dm_Ma_reduce_61 lc_Sc_replaceOutermost lm_Ma_223 li_Sc_replaceOutermost (nr rfl rfl) rfl rfl (scP_c hm.2.1.1).choose_spec rfl (nl rfl) (sk_out hm vu vx hl2) ?_
    rintro _ h3 ⟨bo, rfl, hm, vo, go⟩
    have vu := rwA_S vu go
    have vx := rwA_S vx go
    have G := gr_tr G go (fun _ _ e => e) (Nat.le_refl _) (Nat.le_refl _)
    have w0 := rwA_S w0_0 G
    have m1 := hm.1
    show x_X _ 64 [some (.inr (some 0)), some (.inr (some a)), some (.inl (2 + (c.length : Int))), some (.inl (2 + (c.length : Int) + (uu9.length : Int))), some (.inr (some bu)), some (.inr (some bx)), none] [.inr (some bo)] _ _
    refine xx (xs_astore dm_Ma_reduce_64 (by decide)) ?_
    show x_X _ 66 [some (.inr (some 0)), some (.inr (some a)), some (.inl (2 + (c.length : Int))), some (.inl (2 + (c.length : Int) + (uu9.length : Int))), some (.inr (some bu)), some (.inr (some bx)), some (.inr (some bo))] [] _ _
    refine xx (xs_aload_n dm_Ma_reduce_66 rfl) ?_
    refine xx (xs_iconst dm_Ma_reduce_67) ?_
    refine xx (xs_aload_n dm_Ma_reduce_68 rfl) ?_
    refine xx (xs_getf dm_Ma_reduce_69 lf_Ma_46 m1 rfl) ?_
    refine xx (xs_aload_n dm_Ma_reduce_72 rfl) ?_
    refine xx (xs_getf dm_Ma_reduce_73 lf_Ma_10 m1 rfl) ?_
    refine xx (xs_aload_n dm_Ma_reduce_76 rfl) ?_
    refine xx (xs_getf dm_Ma_reduce_77 lf_Ma_10 m1 rfl) ?_
    refine xx (xs_aload_n dm_Ma_reduce_80 rfl) ?_
    refine xcV (as := [.inr (some a)]) (rest := [.inr (some 1), .inr (some 14), .inl 1, .inr (some 0)]) dm_Ma_reduce_81 lc_Sc_typeOf lm_Ma_80 li_Sc_typeOf (nr rfl rfl) rfl rfl (scP_c hm.2.1.1).choose_spec rfl (nl rfl) (sk_ty hm w0 l0 t0) ?_
    rintro _ h4 ⟨bt, rfl, hm, vt, gt⟩
    have vu := rwA_S vu gt
    have vx := rwA_S vx gt
    have vo := rwA_S vo gt
    have G := gr_tr G gt (fun _ _ e => e) (Nat.le_refl _) (Nat.le_refl _)
    have w0 := rwA_S w0_0 G
    have m1 := hm.1
    show x_X _ 84 [some (.inr (some 0)), some (.inr (some a)), some (.inl (2 + (c.length : Int))), some (.inl (2 + (c.length : Int) + (uu9.length : Int))), some (.inr (some bu)), some (.inr (some bx)), some (.inr (some bo))] [.inr (some bt), .inr (some 1), .inr (some 14), .inl 1, .inr (some 0)] _ _
    refine xx (xs_aload_n dm_Ma_reduce_84 rfl) ?_
    refine xx (xs_aload dm_Ma_reduce_85 rfl) ?_
    refine xcV (as := [.inr (some bt), .inr (some a), .inr (some bo)]) (rest := [.inr (some 14), .inl 1, .inr (some 0)]) dm_Ma_reduce_87 lc_Sc_equation lm_Ma_97 li_Sc_equation (nr rfl rfl) rfl rfl (scP_c hm.2.1.1).choose_spec rfl (nl rfl) (sk_eq hm vt w0 vo) ?_
    rintro _ h5 ⟨be, rfl, hm, ve, ge⟩
    have vu := rwA_S vu ge
    have vx := rwA_S vx ge
    have vo := rwA_S vo ge
    have vt := rwA_S vt ge
    have G := gr_tr G ge (fun _ _ e => e) (Nat.le_refl _) (Nat.le_refl _)
    have w0 := rwA_S w0_0 G
    have m1 := hm.1
    show x_X _ 90 [some (.inr (some 0)), some (.inr (some a)), some (.inl (2 + (c.length : Int))), some (.inl (2 + (c.length : Int) + (uu9.length : Int))), some (.inr (some bu)), some (.inr (some bx)), some (.inr (some bo))] [.inr (some be), .inr (some 14), .inl 1, .inr (some 0)] _ _
    rw [eqn_tk2] at ve
    refine xcV (as := [.inl 1, .inr (some 14), .inr (some be)]) (rest := []) dm_Ma_reduce_90 lc_Ma_finishTheorem lm_Ma_101 li_Ma_finishTheorem (nr rfl rfl) rfl rfl m1 rfl (nl rfl) (ma_fTh (n := 1) hg hm hm.2.2.2.2.2.2.2.1 ve rfl (by decide)) ?_
    rintro _ h6 ⟨rfl, hmF, gF⟩
    show x_X _ 93 [some (.inr (some 0)), some (.inr (some a)), some (.inl (2 + (c.length : Int))), some (.inl (2 + (c.length : Int) + (uu9.length : Int))), some (.inr (some bu)), some (.inr (some bx)), some (.inr (some bo))] [.inl (fin9 M 1 (2, (eqn ty x0.2.1 (betC bx9 uu9 ([], 1))).take 81, [])).1] _ _
    exact ⟨_, _, xb_i dm_Ma_reduce_93 rfl, rfl, hmF, gr_w (gr_tr (gr_SA G) gF (fun _ _ e => e) (Nat.le_refl _) (Nat.le_refl _)) (fun _ _ e => e) (by omega) (by omega)⟩
  · rw [show st_beta M = (2, M) by unfold st_beta; rw [kb0, ifc_f hb]]
    refine xx (xs_aload_n dm_Ma_reduce_0 rfl) ?_
    refine xx (xs_iconst dm_Ma_reduce_1) ?_
    refine xcV (as := [.inl 0]) (rest := []) dm_Ma_reduce_2 lc_Ro_at lm_Ma_211 li_Ro_at (nr rfl rfl) rfl rfl ac rfl (nl rfl) (ro_at w0 (by unfold ir; omega)) ?_
    rintro _ hx9 ⟨rfl, hhx9⟩
    have hhx9 := hhx9.symm
    subst hhx9
    show x_X _ 5 [some (.inr (some 0)), some (.inr (some a)), none, none, none, none, none] [.inl (atL x0.2.1 0)] _ _
    refine xx (xs_bipush dm_Ma_reduce_5 (by decide)) ?_
    refine xx_icmp_ne (tgt := 20) dm_Ma_reduce_7 rfl (atL_ir ai _) (by unfold ir; omega) (fun hc0 => ?_) (fun hc0 => ?_)
    · change x_X _ 20 _ _ _ _
      refine xx (xs_iconst dm_Ma_reduce_20) ?_
      exact ⟨_, _, xb_i dm_Ma_reduce_21 rfl, rfl, hm, gr_w (gr_SA G) (fun _ _ e => e) (by omega) (by omega)⟩
    · change x_X _ 10 _ _ _ _
      refine xx (xs_aload_n dm_Ma_reduce_10 rfl) ?_
      refine xx (xs_iconst dm_Ma_reduce_11) ?_
      refine xcV (as := [.inl 1]) (rest := []) dm_Ma_reduce_12 lc_Ro_at lm_Ma_211 li_Ro_at (nr rfl rfl) rfl rfl ac rfl (nl rfl) (ro_at w0 (by unfold ir; omega)) ?_
      rintro _ hx9 ⟨rfl, hhx9⟩
      have hhx9 := hhx9.symm
      subst hhx9
      show x_X _ 15 [some (.inr (some 0)), some (.inr (some a)), none, none, none, none, none] [.inl (atL x0.2.1 1)] _ _
      refine xx (xs_bipush dm_Ma_reduce_15 (by decide)) ?_
      refine xx_icmp_eq (tgt := 22) dm_Ma_reduce_17 rfl (atL_ir ai _) (by unfold ir; omega) (fun hc1 => ?_) (fun hc1 => ?_)
      · change x_X _ 22 _ _ _ _
        exact absurd (is_bx hc0 hc1) hb
      · change x_X _ 20 _ _ _ _
        refine xx (xs_iconst dm_Ma_reduce_20) ?_
        exact ⟨_, _, xb_i dm_Ma_reduce_21 rfl, rfl, hm, gr_w (gr_SA G) (fun _ _ e => e) (by omega) (by omega)⟩
set_option maxHeartbeats 4000000 in
set_option maxRecDepth 100000 in
theorem ma_addAxiom {h : xH} {M : mS} {a : Nat} {x0 : oB} {ty : List Int} (hg : gM M) (hm : cM h M) (hx0 : M.1[0]? = some x0) (w0 : rwA h a x0.2.1) (t0 : isTm [] x0.2.1 ty) (l0 : x0.2.1.length ≤ 40) : x_Mx mm_Ma_addAxiom [.inr (some 0), .inr (some a)] h (clP 250 1500 h (st_axiom M)) := by
  refine xmx rfl (nl rfl) ?_
  have hm0 := hm
  have m1 := hm.1
  have G := gr_rf pS h
  show x_X _ 0 [some (.inr (some 0)), some (.inr (some a)), none, none] [] _ _
  have w0_0 := w0
  obtain ⟨ka0, kb0, kc0⟩ := kd_of hx0
  have hl0 := (List.getElem?_eq_some_iff.mp hx0).1
  have g6 := hg.2.2.2.2.2.1
  have g10 := hg.2.2.2.2.2.2.2.2.2
  have g7 := hg.2.2.2.2.2.2.1
  rw [show st_axiom M = ifc (ty = [1]) (if M.2.2.1.length = 5 ∨ M.2.2.2.2.2 = 120 then (4, M) else (0, (2, x0.2.1, []) :: M.1.drop 1, M.2.1, M.2.2.1 ++ [(2, x0.2.1, [])], M.2.2.2.1, M.2.2.2.2.1, M.2.2.2.2.2 + 1)) (2, M) by unfold st_axiom; rw [kb0, tyO_of t0]]
  refine xx (xs_aload_n dm_Ma_addAxiom_0 rfl) ?_
  refine xx (xs_getf dm_Ma_addAxiom_1 lf_Ma_10 m1 rfl) ?_
  refine xx (xs_aload_n dm_Ma_addAxiom_4 rfl) ?_
  refine xcV (as := [.inr (some a)]) (rest := []) dm_Ma_addAxiom_5 lc_Sc_typeOf lm_Ma_80 li_Sc_typeOf (nr rfl rfl) rfl rfl (scP_c hm.2.1.1).choose_spec rfl (nl rfl) (sk_ty hm w0 l0 t0) ?_
  rintro _ h1 ⟨bt, rfl, hm, vt, gt⟩
  have G := gr_tr G gt (fun _ _ e => e) (Nat.le_refl _) (Nat.le_refl _)
  have w0 := rwA_S w0_0 G
  have m1 := hm.1
  show x_X _ 8 [some (.inr (some 0)), some (.inr (some a)), none, none] [.inr (some bt)] _ _
  refine xx (xs_iconst dm_Ma_addAxiom_8) ?_
  obtain ⟨tf, tc⟩ := rwA_c vt
  refine xcV (as := [.inl 0]) (rest := []) dm_Ma_addAxiom_9 lc_Ro_at lm_Ma_211 li_Ro_at (nr rfl rfl) rfl rfl tc rfl (nl rfl) (ro_at vt (by unfold ir; omega)) ?_
  rintro _ hx9 ⟨rfl, hhx9⟩
  have hhx9 := hhx9.symm
  subst hhx9
  show x_X _ 12 [some (.inr (some 0)), some (.inr (some a)), none, none] [.inl (atL ty 0)] _ _
  refine xx (xs_iconst dm_Ma_addAxiom_12) ?_
  refine xx_icmp_eq (tgt := 18) dm_Ma_addAxiom_13 rfl (atL_ir vt.2.1 _) (by unfold ir; omega) (fun hc => ?_) (fun hc => ?_)
  · change x_X _ 18 _ _ _ _
    have e1 := ty_1 (isTm_ty t0) hc
    subst e1
    rw [ifc_t rfl]
    obtain ⟨q, q1, q2⟩ := hm.2.2.2.2.1
    refine xx (xs_aload_n dm_Ma_addAxiom_18 rfl) ?_
    refine xx (xs_getf dm_Ma_addAxiom_19 lf_Ma_25 m1 rfl) ?_
    refine xcV (as := []) (rest := []) dm_Ma_addAxiom_22 lc_Sh_isFull lm_Ma_193 li_Sh_isFull (nr rfl rfl) rfl rfl q1.1 rfl (nl rfl) (sh_isFull q1) ?_
    rintro _ hx9 ⟨rfl, hhx9⟩
    have hhx9 := hhx9.symm
    subst hhx9
    show x_X _ 25 [some (.inr (some 0)), some (.inr (some a)), none, none] [.inl (if M.2.2.1.length = 5 then 1 else 0)] _ _
    by_cases h5 : M.2.2.1.length = 5
    · rw [if_pos h5, if_pos (Or.inl h5)]
      show x_X _ 25 [some (.inr (some 0)), some (.inr (some a)), none, none] [.inl 1] _ _
      refine xx (xs_if_eq_f (tgt := 30) dm_Ma_addAxiom_25 rfl (by unfold ir; omega) (by omega)) ?_
      refine xx (xs_iconst dm_Ma_addAxiom_28) ?_
      exact ⟨_, _, xb_i dm_Ma_addAxiom_29 rfl, rfl, hm, gr_w (gr_SA G) (fun _ _ e => e) (by omega) (by omega)⟩
    · rw [if_neg h5]
      show x_X _ 25 [some (.inr (some 0)), some (.inr (some a)), none, none] [.inl 0] _ _
      refine xx (xs_if_eq_t (tgt := 30) dm_Ma_addAxiom_25 rfl (by unfold ir; omega) (by omega)) ?_
      refine xx (xs_new dm_Ma_addAxiom_30 ln_Ma_31) ?_
      obtain ⟨aI, eaI⟩ : ∃ a, a = h1.1.length := ⟨_, rfl⟩
      rw [← eaI]
      obtain ⟨h2, hh2⟩ : ∃ hX : xH, hX = (h1.1 ++ [.inr (.inr (3, [.inl 0, .inr none, .inr none]))], h1.2 + 3) := ⟨_, rfl⟩
      show x_X _ 33 [some (.inr (some 0)), some (.inr (some a)), none, none] [.inr (some aI)] (h1.1 ++ [.inr (.inr (3, [.inl 0, .inr none, .inr none]))], h1.2 + 3) _
      rw [← hh2]
      have caI : h2.1[aI]? = some (.inr (.inr (3, [.inl 0, .inr none, .inr none]))) := by rw [hh2, eaI]; exact push_at
      have gAI : gr (fun _ => False) 1 3 h1 h2 := by rw [hh2]; exact gr_push _
      have leI : h2.1.length = h1.1.length + 1 := by rw [hh2]; simp
      have gaI : 23 ≤ aI := by rw [eaI]; exact hm.2.2.2.2.2.2.2.2
      have gbI : h.1.length ≤ aI := by rw [eaI]; exact G.1.1
      have m1 := gAI.2 0 _ (fun e => e) m1
      refine xx (xs_dup dm_Ma_addAxiom_33) ?_
      refine xx (xs_iconst dm_Ma_addAxiom_34) ?_
      refine xx (xs_aload_n dm_Ma_addAxiom_35 rfl) ?_
      refine xx (xs_aload_n dm_Ma_addAxiom_36 rfl) ?_
      refine xx (xs_getf dm_Ma_addAxiom_37 lf_Ma_46 m1 rfl) ?_
      refine xcI (as := [.inl 2, .inr (some a), .inr (some 14)]) (rest := [.inr (some aI)]) dm_Ma_addAxiom_40 lc_It_init lm_Ma_226 li_It_init (nr rfl rfl) rfl rfl (nl rfl) (it_init (k := 2) (m := a) (y := 14) caI |> fun hh => x_Mq hh (fun r hf e => ⟨e.1, e⟩)) ?_
      rintro _ h3 ⟨-, hh9⟩
      show x_X _ 43 [some (.inr (some 0)), some (.inr (some a)), none, none] [.inr (some aI)] _ _
      have gBI : gr (fun i => i = aI) 0 0 h2 h3 := by rw [hh9]; exact gr_set
      have gCI : gr (fun _ => False) 1 3 h1 h3 := gr_tr gAI (P' := fun i => i = aI) gBI (fun i hi e => by have : i = aI := e; omega) (Nat.le_refl _) (Nat.le_refl _)
      have cI : h3.1[aI]? = some (.inr (.inr (3, [.inl 2, .inr (some a), .inr (some 14)]))) := by rw [hh9]; exact set_at caI
      clear hh9
      have hm := cM_new hm gCI
      have gSI := gr_S gCI (fun i e => e.elim)
      have vt := rwA_S vt gSI
      have G := gr_tr G gSI (fun _ _ e => e) (Nat.le_refl _) (Nat.le_refl _)
      have w0 := rwA_S w0_0 G
      have m1 := hm.1
      have it : itA h3 aI (2, x0.2.1, []) := ⟨gaI, a, 14, cI, w0, hm.2.2.2.2.2.2.2.1⟩
      refine xx (xs_astore_n dm_Ma_addAxiom_43 (by decide)) ?_
      show x_X _ 44 [some (.inr (some 0)), some (.inr (some a)), some (.inr (some aI)), none] [] _ _
      refine xx (xs_aload_n dm_Ma_addAxiom_44 rfl) ?_
      refine xx (xs_iconst dm_Ma_addAxiom_45) ?_
      refine xx (xs_aload_n dm_Ma_addAxiom_46 rfl) ?_
      have sm : smO (2, x0.2.1, []) := ⟨l0, by simp, by simp⟩
      by_cases h120 : M.2.2.2.2.2 = 120
      · have ef : fin9 M 1 (2, x0.2.1, []) = (4, M) := by unfold fin9; rw [ifc_t ⟨sm, by omega⟩]; exact if_pos (Or.inr h120)
        rw [if_pos (Or.inr h120)]
        refine xcV (as := [.inl 1, .inr (some aI)]) (rest := []) dm_Ma_addAxiom_47 lc_Ma_finish lm_Ma_182 li_Ma_finish (nr rfl rfl) rfl rfl m1 rfl (nl rfl) (ma_finish (n := 1) hg hm it (by simp) rfl (by decide)) ?_
        rintro _ hF ⟨rfl, hmF, gF⟩
        rw [ef] at hmF ⊢
        show x_X _ 50 [some (.inr (some 0)), some (.inr (some a)), some (.inr (some aI)), none] [.inl 4] _ _
        refine xx (xs_istore_n dm_Ma_addAxiom_50 (by decide)) ?_
        show x_X _ 51 [some (.inr (some 0)), some (.inr (some a)), some (.inr (some aI)), some (.inl 4)] [] _ _
        refine xx (xs_iload_n dm_Ma_addAxiom_51 rfl) ?_
        refine xx (xs_if_ne_t (tgt := 63) dm_Ma_addAxiom_52 rfl (by unfold ir; omega) (by omega)) ?_
        refine xx (xs_iload_n dm_Ma_addAxiom_63 rfl) ?_
        exact ⟨_, _, xb_i dm_Ma_addAxiom_64 rfl, rfl, hmF, gr_w (gr_tr (gr_SA G) gF (fun _ _ e => e) (Nat.le_refl _) (Nat.le_refl _)) (fun _ _ e => e) (by omega) (by omega)⟩
      · have ef : fin9 M 1 (2, x0.2.1, []) = (0, pu M 1 (2, x0.2.1, [])) := by unfold fin9; rw [ifc_t ⟨sm, by omega⟩]; exact if_neg (fun e => by rcases e with e | e; cases e; exact h120 e)
        rw [if_neg (by omega)]
        refine xcV (as := [.inl 1, .inr (some aI)]) (rest := []) dm_Ma_addAxiom_47 lc_Ma_finish lm_Ma_182 li_Ma_finish (nr rfl rfl) rfl rfl m1 rfl (nl rfl) (ma_finish (n := 1) hg hm it (by simp) rfl (by decide)) ?_
        rintro _ hF ⟨rfl, hmF, gF⟩
        rw [ef] at hmF ⊢
        show x_X _ 50 [some (.inr (some 0)), some (.inr (some a)), some (.inr (some aI)), none] [.inl 0] _ _
        refine xx (xs_istore_n dm_Ma_addAxiom_50 (by decide)) ?_
        show x_X _ 51 [some (.inr (some 0)), some (.inr (some a)), some (.inr (some aI)), some (.inl 0)] [] _ _
        refine xx (xs_iload_n dm_Ma_addAxiom_51 rfl) ?_
        refine xx (xs_if_ne_f (tgt := 63) dm_Ma_addAxiom_52 rfl (by unfold ir; omega) (by omega)) ?_
        obtain ⟨m1, m2, m3, m4, m5, m6, m7, m8, m9⟩ := hmF
        obtain ⟨q, q1, q2⟩ := m5
        have cI := ce_A cI gF (by omega)
        have hi1 := itA_A it gF
        have q1 : shF hF 8 9 5 M.2.2.1.length q := q1
        refine xx (xs_aload_n dm_Ma_addAxiom_55 rfl) ?_
        refine xx (xs_getf dm_Ma_addAxiom_56 lf_Ma_25 m1 rfl) ?_
        refine xx (xs_aload_n dm_Ma_addAxiom_59 rfl) ?_
        refine xcV (as := [.inr (some aI)]) (rest := []) dm_Ma_addAxiom_60 lc_Sh_add lm_Ma_197 li_Sh_add (nr rfl rfl) rfl rfl q1.1 rfl (nl rfl) (sh_add q1 cI (by omega)) ?_
        rintro _ hG ⟨rfl, s2, g2⟩
        show x_X _ 63 [some (.inr (some 0)), some (.inr (some a)), some (.inr (some aI)), some (.inl 0)] [] _ _
        refine xx (xs_iload_n dm_Ma_addAxiom_63 rfl) ?_
        exact ⟨_, _, xb_i dm_Ma_addAxiom_64 rfl, rfl, ⟨g2.2 0 _ (by omega) m1, cP_gr m2 g2 (fun i hi => by omega), cL_gr m3 g2 (by omega) (by omega) (fun i hi => by omega), cDi_gr m4 g2 (by omega) (fun i hi => by omega), cL_add s2 (by rw [q1.2.2.1]; omega) q2 hi1 g2 (fun i hi => by omega), cL_gr m6 g2 (by omega) (by omega) (fun i hi => by omega), cC_gr m7 g2 (by omega) (fun i hi => by omega), hyA_gr m8 g2 (fun i hi => by omega), Nat.le_trans m9 g2.1.1⟩, gr_w (gr_tr (gr_tr (gr_SA G) gF (fun _ _ e => e) (Nat.le_refl _) (Nat.le_refl _)) g2 (fun i _ e => by show i < 14; omega) (Nat.le_refl _) (Nat.le_refl _)) (fun _ _ e => e) (by omega) (by omega)⟩
  · change x_X _ 16 _ _ _ _
    rw [ifc_f (fun e => hc (by rw [e]; exact atL_0))]
    refine xx (xs_iconst dm_Ma_addAxiom_16) ?_
    exact ⟨_, _, xb_i dm_Ma_addAxiom_17 rfl, rfl, hm, gr_w (gr_SA G) (fun _ _ e => e) (by omega) (by omega)⟩
set_option maxHeartbeats 4000000 in
set_option maxRecDepth 100000 in
theorem ma_define {h : xH} {M : mS} {a : Nat} {x0 : oB} {ty : List Int} (hg : gM M) (hm : cM h M) (hx0 : M.1[0]? = some x0) (w0 : rwA h a x0.2.1) (t0 : isTm [] x0.2.1 ty) (l0 : x0.2.1.length ≤ 40) : x_Mx mm_Ma_define [.inr (some 0), .inr (some a)] h (clP 250 1500 h (st_define M)) := by
  refine xmx rfl (nl rfl) ?_
  have hm0 := hm
  have m1 := hm.1
  have G := gr_rf pS h
  show x_X _ 0 [some (.inr (some 0)), some (.inr (some a)), none, none, none] [] _ _
  have w0_0 := w0
  obtain ⟨ka0, kb0, kc0⟩ := kd_of hx0
  have hl0 := (List.getElem?_eq_some_iff.mp hx0).1
  have g6 := hg.2.2.2.2.2.1
  have g10 := hg.2.2.2.2.2.2.2.2.2
  have g9 := hg.2.2.2.2.2.2.2.2.1
  have htl := ty_len t0 0 (by simp)
  obtain ⟨D, eD⟩ : ∃ D, D = eqn ty (11 :: ((M.2.2.2.2.1.length : Int) + 1) :: ty) x0.2.1 := ⟨_, rfl⟩
  have edf : dfl M = D := by unfold dfl; rw [kb0, tyO_of t0, eD]
  have est : st_define M = ifc (clC ty x0.2.1) (if 40 < D.length ∨ M.2.2.2.2.1.length = 6 ∨ M.2.2.2.2.2 = 120 then (4, M) else (0, (2, D, []) :: M.1.drop 1, M.2.1, M.2.2.1, M.2.2.2.1, M.2.2.2.2.1 ++ [ty], M.2.2.2.2.2 + 1)) (3, M) := by unfold st_define; rw [edf, kb0, tyO_of t0]
  rw [est]
  have ecl : clC ty x0.2.1 ↔ (¬ (10 : Int) ∈ x0.2.1) ∧ tvC ty x0.2.1 (-1) := by
    unfold clC
    rw [tvC_hd (by have := isTm_hdT t0 []; rw [List.append_nil] at this; exact this) 0 (-1)]
    exact and_congr ⟨fun e f => e 10 f rfl, fun e s hs f => e (by rw [← f]; exact hs)⟩ Iff.rfl
  obtain ⟨af, ac⟩ := rwA_c w0
  refine xx (xs_aload_n dm_Ma_define_0 rfl) ?_
  refine xx (xs_getf dm_Ma_define_1 lf_Ma_10 m1 rfl) ?_
  refine xx (xs_aload_n dm_Ma_define_4 rfl) ?_
  refine xcV (as := [.inr (some a)]) (rest := []) dm_Ma_define_5 lc_Sc_typeOf lm_Ma_80 li_Sc_typeOf (nr rfl rfl) rfl rfl (scP_c hm.2.1.1).choose_spec rfl (nl rfl) (sk_ty hm w0 l0 t0) ?_
  rintro _ h1 ⟨bt, rfl, hm, vt, gt⟩
  have G := gr_tr G gt (fun _ _ e => e) (Nat.le_refl _) (Nat.le_refl _)
  have w0 := rwA_S w0_0 G
  have m1 := hm.1
  show x_X _ 8 [some (.inr (some 0)), some (.inr (some a)), none, none, none] [.inr (some bt)] _ _
  refine xx (xs_astore_n dm_Ma_define_8 (by decide)) ?_
  show x_X _ 9 [some (.inr (some 0)), some (.inr (some a)), some (.inr (some bt)), none, none] [] _ _
  refine xx (xs_aload_n dm_Ma_define_9 rfl) ?_
  obtain ⟨af, ac⟩ := rwA_c w0
  refine xcV (as := []) (rest := []) dm_Ma_define_10 lc_Ro_hasFreeVariable lm_Ma_229 li_Ro_hasFreeVariable (nr rfl rfl) rfl rfl ac rfl (nl rfl) (ro_hasFreeVariable w0) ?_
  rintro _ hx9 ⟨rfl, hhx9⟩
  have hhx9 := hhx9.symm
  subst hhx9
  show x_X _ 13 [some (.inr (some 0)), some (.inr (some a)), some (.inr (some bt)), none, none] [.inl (if (10 : Int) ∈ x0.2.1 then 1 else 0)] _ _
  by_cases h10 : (10 : Int) ∈ x0.2.1
  · rw [if_pos h10, ifc_f (fun e => (ecl.mp e).1 h10)]
    show x_X _ 13 [some (.inr (some 0)), some (.inr (some a)), some (.inr (some bt)), none, none] [.inl 1] _ _
    refine xx (xs_if_ne_t (tgt := 24) dm_Ma_define_13 rfl (by unfold ir; omega) (by omega)) ?_
    refine xx (xs_iconst dm_Ma_define_24) ?_
    exact ⟨_, _, xb_i dm_Ma_define_25 rfl, rfl, hm, gr_w (gr_SA G) (fun _ _ e => e) (by omega) (by omega)⟩
  rw [if_neg h10]
  show x_X _ 13 [some (.inr (some 0)), some (.inr (some a)), some (.inr (some bt)), none, none] [.inl 0] _ _
  refine xx (xs_if_ne_f (tgt := 24) dm_Ma_define_13 rfl (by unfold ir; omega) (by omega)) ?_
  refine xx (xs_aload_n dm_Ma_define_16 rfl) ?_
  refine xx (xs_aload_n dm_Ma_define_17 rfl) ?_
  by_cases htv : tvC ty x0.2.1 (-1)
  · refine xcV (as := [.inr (some bt)]) (rest := []) dm_Ma_define_18 lc_Ro_typeVariablesStandIn lm_Ma_232 li_Ro_typeVariablesStandIn (nr rfl rfl) rfl rfl ac rfl (nl rfl) (ro_tvsi (R := 1) w0 vt (fun _ => rfl) (fun e => absurd htv e)) ?_
    rintro _ hx9 ⟨rfl, hhx9⟩
    have hhx9 := hhx9.symm
    subst hhx9
    show x_X _ 21 [some (.inr (some 0)), some (.inr (some a)), some (.inr (some bt)), none, none] [.inl 1] _ _
    rw [ifc_t (ecl.mpr ⟨h10, htv⟩)]
    refine xx (xs_if_ne_t (tgt := 26) dm_Ma_define_21 rfl (by unfold ir; omega) (by omega)) ?_
    refine xx (xs_aload_n dm_Ma_define_26 rfl) ?_
    refine xx (xs_getf dm_Ma_define_27 lf_Ma_50 m1 rfl) ?_
    refine xx (xs_bipush dm_Ma_define_30 (by decide)) ?_
    refine xx_icmp_lt (tgt := 37) dm_Ma_define_32 rfl (by unfold ir; omega) (by unfold ir; omega) (fun hc => ?_) (fun hc => ?_)
    · change x_X _ 37 _ _ _ _
      refine xx (xs_aload_n dm_Ma_define_37 rfl) ?_
      refine xx (xs_getf dm_Ma_define_38 lf_Ma_10 m1 rfl) ?_
      refine xx (xs_bipush dm_Ma_define_41 (by decide)) ?_
      refine xx (xs_aload_n dm_Ma_define_43 rfl) ?_
      refine xx (xs_getf dm_Ma_define_44 lf_Ma_50 m1 rfl) ?_
      refine xx (xs_iconst dm_Ma_define_47) ?_
      refine xx (xs_iadd dm_Ma_define_48) ?_
      refine xx (xs_aload_n dm_Ma_define_49 rfl) ?_
      refine xcV (as := [.inl 11, .inl ((M.2.2.2.2.1.length : Int) + 1), .inr (some bt)]) (rest := []) dm_Ma_define_50 lc_Sc_leaf lm_Ma_73 li_Sc_leaf (nr rfl rfl) rfl rfl (scP_c hm.2.1.1).choose_spec rfl (nl rfl) (sk_leaf hm (by unfold ir; omega) (by unfold ir; omega) vt) ?_
      rintro _ h2 ⟨bl, rfl, hm, vl, gl⟩
      have vt := rwA_S vt gl
      have G := gr_tr G gl (fun _ _ e => e) (Nat.le_refl _) (Nat.le_refl _)
      have w0 := rwA_S w0_0 G
      have m1 := hm.1
      show x_X _ 53 [some (.inr (some 0)), some (.inr (some a)), some (.inr (some bt)), none, none] [.inr (some bl)] _ _
      refine xx (xs_astore_n dm_Ma_define_53 (by decide)) ?_
      show x_X _ 54 [some (.inr (some 0)), some (.inr (some a)), some (.inr (some bt)), some (.inr (some bl)), none] [] _ _
      refine xx (xs_aload_n dm_Ma_define_54 rfl) ?_
      refine xx (xs_iconst dm_Ma_define_55) ?_
      refine xx (xs_aload_n dm_Ma_define_56 rfl) ?_
      refine xx (xs_getf dm_Ma_define_57 lf_Ma_46 m1 rfl) ?_
      refine xx (xs_aload_n dm_Ma_define_60 rfl) ?_
      refine xx (xs_getf dm_Ma_define_61 lf_Ma_10 m1 rfl) ?_
      refine xx (xs_aload_n dm_Ma_define_64 rfl) ?_
      refine xx (xs_aload_n dm_Ma_define_65 rfl) ?_
      refine xx (xs_aload_n dm_Ma_define_66 rfl) ?_
      refine xcV (as := [.inr (some bt), .inr (some bl), .inr (some a)]) (rest := [.inr (some 14), .inl 1, .inr (some 0)]) dm_Ma_define_67 lc_Sc_equation lm_Ma_97 li_Sc_equation (nr rfl rfl) rfl rfl (scP_c hm.2.1.1).choose_spec rfl (nl rfl) (sk_eq hm vt vl w0) ?_
      rintro _ h3 ⟨be, rfl, hm, ve, ge⟩
      have vt := rwA_S vt ge
      have vl := rwA_S vl ge
      have G := gr_tr G ge (fun _ _ e => e) (Nat.le_refl _) (Nat.le_refl _)
      have w0 := rwA_S w0_0 G
      have m1 := hm.1
      show x_X _ 70 [some (.inr (some 0)), some (.inr (some a)), some (.inr (some bt)), some (.inr (some bl)), none] [.inr (some be), .inr (some 14), .inl 1, .inr (some 0)] _ _
      rw [eqn_tk1, ← eD] at ve
      by_cases hbad : 40 < D.length ∨ M.2.2.2.2.2 = 120
      · have ef : fi M 1 (2, D, []) (decide (40 < D.length)) = (4, M) := by
          unfold fi
          rw [if_pos (by rcases hbad with e | e; exact Or.inl (decide_eq_true e); exact Or.inr e)]
        rw [if_pos (by omega)]
        refine xcV (as := [.inl 1, .inr (some 14), .inr (some be)]) (rest := []) dm_Ma_define_70 lc_Ma_finishTheorem lm_Ma_101 li_Ma_finishTheorem (nr rfl rfl) rfl rfl m1 rfl (nl rfl) (ma_fTh (n := 1) hg hm hm.2.2.2.2.2.2.2.1 ve rfl (by decide)) ?_
        rintro _ hF ⟨rfl, hmF, gF⟩
        rw [fin9_0 (Or.inr rfl) (by omega), ef] at hmF ⊢
        show x_X _ 73 [some (.inr (some 0)), some (.inr (some a)), some (.inr (some bt)), some (.inr (some bl)), none] [.inl 4] _ _
        refine xx (xs_istore dm_Ma_define_73 (by decide)) ?_
        show x_X _ 75 [some (.inr (some 0)), some (.inr (some a)), some (.inr (some bt)), some (.inr (some bl)), some (.inl 4)] [] _ _
        refine xx (xs_iload dm_Ma_define_75 rfl) ?_
        refine xx (xs_if_ne_t (tgt := 100) dm_Ma_define_77 rfl (by unfold ir; omega) (by omega)) ?_
        refine xx (xs_iload dm_Ma_define_100 rfl) ?_
        exact ⟨_, _, xb_i dm_Ma_define_102 rfl, rfl, hmF, gr_w (gr_tr (gr_SA G) gF (fun _ _ e => e) (Nat.le_refl _) (Nat.le_refl _)) (fun _ _ e => e) (by omega) (by omega)⟩
      · have ef : fi M 1 (2, D, []) (decide (40 < D.length)) = (0, pu M 1 (2, D, [])) := by
          unfold fi
          rw [if_neg (by intro e; rcases e with e | e; exact hbad (Or.inl (of_decide_eq_true e)); exact hbad (Or.inr e))]
        rw [if_neg (by omega)]
        refine xcV (as := [.inl 1, .inr (some 14), .inr (some be)]) (rest := []) dm_Ma_define_70 lc_Ma_finishTheorem lm_Ma_101 li_Ma_finishTheorem (nr rfl rfl) rfl rfl m1 rfl (nl rfl) (ma_fTh (n := 1) hg hm hm.2.2.2.2.2.2.2.1 ve rfl (by decide)) ?_
        rintro _ hF ⟨rfl, hmF, gF⟩
        rw [fin9_0 (Or.inr rfl) (by omega), ef] at hmF ⊢
        show x_X _ 73 [some (.inr (some 0)), some (.inr (some a)), some (.inr (some bt)), some (.inr (some bl)), none] [.inl 0] _ _
        refine xx (xs_istore dm_Ma_define_73 (by decide)) ?_
        show x_X _ 75 [some (.inr (some 0)), some (.inr (some a)), some (.inr (some bt)), some (.inr (some bl)), some (.inl 0)] [] _ _
        refine xx (xs_iload dm_Ma_define_75 rfl) ?_
        refine xx (xs_if_ne_f (tgt := 100) dm_Ma_define_77 rfl (by unfold ir; omega) (by omega)) ?_
        obtain ⟨m1, m2, m3, m4, m5, m6, ⟨q, q1, q2, q3⟩, m8, m9⟩ := hmF
        have vt1 := rwA_A vt gF
        obtain ⟨tf, tc⟩ := rwA_c vt1
        have m1 : cS hF M.2.2.2.2.1.length (M.2.2.2.2.2 + 1) := m1
        have q3 : ∀ (i : Nat) (c : List Int), M.2.2.2.2.1[i]? = some c → ∃ b, q[i]? = some (some b) ∧ rwA hF b c := q3
        refine xx (xs_aload_n dm_Ma_define_80 rfl) ?_
        refine xx (xs_getf dm_Ma_define_81 lf_Ma_39 m1 rfl) ?_
        refine xx (xs_aload_n dm_Ma_define_84 rfl) ?_
        refine xx (xs_getf dm_Ma_define_85 lf_Ma_50 m1 rfl) ?_
        refine xx (xs_aload_n dm_Ma_define_88 rfl) ?_
        refine xx (xs_aast dm_Ma_define_89 (by decide) q1 tc rfl (by omega) (by omega) (by omega)) ?_
        obtain ⟨hG, hhG⟩ : ∃ hX : xH, hX = (hF.1.set 13 (.inr (.inl (0, q.set (M.2.2.2.2.1.length : Int).toNat (some bt)))), hF.2) := ⟨_, rfl⟩
        show x_X _ 90 [some (.inr (some 0)), some (.inr (some a)), some (.inr (some bt)), some (.inr (some bl)), some (.inl 0)] [] (hF.1.set 13 (.inr (.inl (0, q.set (M.2.2.2.2.1.length : Int).toNat (some bt)))), hF.2) _
        rw [← hhG]
        rw [show (M.2.2.2.2.1.length : Int).toNat = M.2.2.2.2.1.length by omega] at hhG
        have g2 : gr (fun i => i = 13) 0 0 hF hG := by rw [hhG]; exact gr_set
        have q1' : hG.1[13]? = some (.inr (.inl (0, q.set M.2.2.2.2.1.length (some bt)))) := by rw [hhG]; exact set_at q1
        have m1 := g2.2 0 _ (by omega) m1
        clear hhG
        refine xx (xs_aload_n dm_Ma_define_90 rfl) ?_
        refine xx (xs_dup dm_Ma_define_91) ?_
        refine xx (xs_getf dm_Ma_define_92 lf_Ma_50 m1 rfl) ?_
        refine xx (xs_iconst dm_Ma_define_95) ?_
        refine xx (xs_iadd dm_Ma_define_96) ?_
        refine xx (xs_putf dm_Ma_define_97 lp_Ma_50 m1 (nl rfl) (x_ft_i _)) ?_
        obtain ⟨hI, hhI⟩ : ∃ hX : xH, hX = (hG.1.set 0 (.inr (.inr (7, [.inr (some 1), .inr (some 6), .inr (some 8), .inr (some 10), .inr (some 12), .inr (some 13), .inr (some 14), .inl ((M.2.2.2.2.1.length : Int) + 1), .inl ((M.2.2.2.2.2 + 1 : Nat) : Int)]))), hG.2) := ⟨_, rfl⟩
        show x_X _ 100 [some (.inr (some 0)), some (.inr (some a)), some (.inr (some bt)), some (.inr (some bl)), some (.inl 0)] [] (hG.1.set 0 (.inr (.inr (7, [.inr (some 1), .inr (some 6), .inr (some 8), .inr (some 10), .inr (some 12), .inr (some 13), .inr (some 14), .inl ((M.2.2.2.2.1.length : Int) + 1), .inl ((M.2.2.2.2.2 + 1 : Nat) : Int)]))), hG.2) _
        rw [← hhI]
        have m1_o := m1
        have m1 : hI.1[0]? = some (.inr (.inr (7, [.inr (some 1), .inr (some 6), .inr (some 8), .inr (some 10), .inr (some 12), .inr (some 13), .inr (some 14), .inl ((M.2.2.2.2.1.length : Int) + 1), .inl ((M.2.2.2.2.2 + 1 : Nat) : Int)]))) := by rw [hhI]; exact set_at m1_o
        have g3 : gr (fun i => i = 0) 0 0 hG hI := by rw [hhI]; exact gr_set
        have g4 : gr (fun i => i = 0 ∨ i = 13) 0 0 hF hI := gr_tr (gr_w g2 (fun i _ e => Or.inr e) (Nat.le_refl _) (Nat.le_refl _)) g3 (fun i _ e => Or.inl e) (Nat.le_refl _) (Nat.le_refl _)
        have hcc : cC hI (M.2.2.2.2.1 ++ [ty]) := by
          refine ⟨_, g3.2 13 _ (by omega) q1', by rw [List.length_set]; exact q2, fun i c hc => ?_⟩
          by_cases hi : i < M.2.2.2.2.1.length
          · rw [List.getElem?_append_left hi] at hc
            obtain ⟨b, b1, b2⟩ := q3 i c hc
            exact ⟨b, by rw [List.getElem?_set_ne (by omega)]; exact b1, rwA_lo b2 g4 (fun i hi => by omega)⟩
          · have hl := (List.getElem?_eq_some_iff.mp hc).1
            rw [List.length_append] at hl
            have hl : i < M.2.2.2.2.1.length + 1 := hl
            have e : i = M.2.2.2.2.1.length := by omega
            subst e
            rw [List.getElem?_append_right (Nat.le_refl _)] at hc
            simp at hc
            subst hc
            exact ⟨bt, by rw [List.getElem?_set_self (by omega)], rwA_lo vt1 g4 (fun i hi => by omega)⟩
        have m1 : cS hI (M.2.2.2.2.1 ++ [ty]).length (M.2.2.2.2.2 + 1) := by
          unfold cS
          rw [m1, List.length_append]
          rfl
        refine xx (xs_iload dm_Ma_define_100 rfl) ?_
        exact ⟨_, _, xb_i dm_Ma_define_102 rfl, rfl, ⟨m1, cP_gr m2 g4 (fun i hi => by omega), cL_gr m3 g4 (by omega) (by omega) (fun i hi => by omega), cDi_gr m4 g4 (by omega) (fun i hi => by omega), cL_gr m5 g4 (by omega) (by omega) (fun i hi => by omega), cL_gr m6 g4 (by omega) (by omega) (fun i hi => by omega), hcc, hyA_gr m8 g4 (fun i hi => by omega), Nat.le_trans m9 g4.1.1⟩, gr_w (gr_tr (gr_tr (gr_SA G) gF (fun _ _ e => e) (Nat.le_refl _) (Nat.le_refl _)) g4 (fun i _ e => by show i < 14; omega) (Nat.le_refl _) (Nat.le_refl _)) (fun _ _ e => e) (by omega) (by omega)⟩
    · change x_X _ 35 _ _ _ _
      rw [if_pos (by omega)]
      refine xx (xs_iconst dm_Ma_define_35) ?_
      exact ⟨_, _, xb_i dm_Ma_define_36 rfl, rfl, hm, gr_w (gr_SA G) (fun _ _ e => e) (by omega) (by omega)⟩
  · refine xcV (as := [.inr (some bt)]) (rest := []) dm_Ma_define_18 lc_Ro_typeVariablesStandIn lm_Ma_232 li_Ro_typeVariablesStandIn (nr rfl rfl) rfl rfl ac rfl (nl rfl) (ro_tvsi (R := 0) w0 vt (fun e => absurd e htv) (fun _ => rfl)) ?_
    rintro _ hx9 ⟨rfl, hhx9⟩
    have hhx9 := hhx9.symm
    subst hhx9
    show x_X _ 21 [some (.inr (some 0)), some (.inr (some a)), some (.inr (some bt)), none, none] [.inl 0] _ _
    rw [ifc_f (fun e => htv (ecl.mp e).2)]
    refine xx (xs_if_ne_f (tgt := 26) dm_Ma_define_21 rfl (by unfold ir; omega) (by omega)) ?_
    refine xx (xs_iconst dm_Ma_define_24) ?_
    exact ⟨_, _, xb_i dm_Ma_define_25 rfl, rfl, hm, gr_w (gr_SA G) (fun _ _ e => e) (by omega) (by omega)⟩
set_option maxHeartbeats 4000000 in
set_option maxRecDepth 100000 in
theorem ma_theorem {h : xH} {M : mS} {c : Int} (hg : gM M) (hm : cM h M) (hr : ir c) : x_Mx mm_Ma_theorem [.inr (some 0), .inl c] h (clP 250 1500 h (st_theorem M c)) := by
  refine xmx rfl (nl rfl) ?_
  have hm0 := hm
  have m1 := hm.1
  have G := gr_rf pS h
  show x_X _ 0 [some (.inr (some 0)), some (.inl c), none] [] _ _
  have g6 := hg.2.2.2.2.2.1
  refine xx (xs_aload_n dm_Ma_theorem_0 rfl) ?_
  refine xx (xs_iconst dm_Ma_theorem_1) ?_
  refine xx (xs_iconst dm_Ma_theorem_2) ?_
  refine xcV (as := [.inl 0, .inl 1]) (rest := []) dm_Ma_theorem_3 lc_Ma_rowBelow lm_Ma_65 li_Ma_rowBelow (nr rfl rfl) rfl rfl m1 rfl (nl rfl) (ma_rowB (i := 0) hg hm rfl (by decide) (by decide)) ?_
  rintro r9 hx9 ⟨hhx9, hR⟩
  have hhx9 := hhx9.symm
  subst hhx9
  rcases hR with ⟨k0, a0, x0, hx0, e9, w0⟩ | ⟨k0, e9⟩
  · subst e9
    obtain ⟨ka0, kb0, kc0⟩ := kd_of hx0
    have hl0 := (List.getElem?_eq_some_iff.mp hx0).1
    have gx0 := gM_top hg hx0
    have w0_0 := w0
    show x_X _ 6 [some (.inr (some 0)), some (.inl c), none] [.inr (some a0)] _ _
    obtain ⟨⟨ty0, t0⟩, l0, -⟩ := gO_1 gx0 (by rw [← ka0]; exact k0)
    have e9 : st_theorem M c = if c = 0 then st_refl M else if c = 1 then st_assume M else if c = 2 then st_beta M else if c = 3 then st_axiom M else if c = 4 then st_define M else (2, M) := by unfold st_theorem; rw [if_neg (fun e => e k0)]
    rw [e9]
    clear e9
    refine xx (xs_astore_n dm_Ma_theorem_6 (by decide)) ?_
    show x_X _ 7 [some (.inr (some 0)), some (.inl c), some (.inr (some a0))] [] _ _
    refine xx (xs_aload_n dm_Ma_theorem_7 rfl) ?_
    refine xx (xs_ifnonnull_t (tgt := 13) dm_Ma_theorem_8 rfl) ?_
    refine xx (xs_iload_n dm_Ma_theorem_13 rfl) ?_
    by_cases e0 : c = 0
    · rw [if_pos e0]
      subst e0
      show x_X _ 14 [some (.inr (some 0)), some (.inl 0), some (.inr (some a0))] [.inl 0] _ _
      refine xx (xs_tableIn (off := 34) (tgt := 48) dm_Ma_theorem_14 (by unfold ir; omega) (by omega) (by omega) rfl rfl) ?_
      refine xx (xs_aload_n dm_Ma_theorem_48 rfl) ?_
      refine xx (xs_iconst dm_Ma_theorem_49) ?_
      refine xx (xs_aload_n dm_Ma_theorem_50 rfl) ?_
      refine xx (xs_getf dm_Ma_theorem_51 lf_Ma_46 m1 rfl) ?_
      refine xx (xs_aload_n dm_Ma_theorem_54 rfl) ?_
      refine xx (xs_getf dm_Ma_theorem_55 lf_Ma_10 m1 rfl) ?_
      refine xx (xs_aload_n dm_Ma_theorem_58 rfl) ?_
      refine xx (xs_getf dm_Ma_theorem_59 lf_Ma_10 m1 rfl) ?_
      refine xx (xs_aload_n dm_Ma_theorem_62 rfl) ?_
      rw [show st_refl M = fin9 M 1 (2, (eqn ty0 x0.2.1 x0.2.1).take 81, []) by unfold st_refl; rw [kb0, tyO_of t0]; exact (fin9_0 (Or.inr rfl) (by omega)).symm]
      refine xcV (as := [.inr (some a0)]) (rest := [.inr (some 1), .inr (some 14), .inl 1, .inr (some 0)]) dm_Ma_theorem_63 lc_Sc_typeOf lm_Ma_80 li_Sc_typeOf (nr rfl rfl) rfl rfl (scP_c hm.2.1.1).choose_spec rfl (nl rfl) (sk_ty hm w0 l0 t0) ?_
      rintro _ h1 ⟨bt, rfl, hm, vt, gt⟩
      have G := gr_tr G gt (fun _ _ e => e) (Nat.le_refl _) (Nat.le_refl _)
      have w0 := rwA_S w0_0 G
      have m1 := hm.1
      show x_X _ 66 [some (.inr (some 0)), some (.inl 0), some (.inr (some a0))] [.inr (some bt), .inr (some 1), .inr (some 14), .inl 1, .inr (some 0)] _ _
      refine xx (xs_aload_n dm_Ma_theorem_66 rfl) ?_
      refine xx (xs_aload_n dm_Ma_theorem_67 rfl) ?_
      refine xcV (as := [.inr (some bt), .inr (some a0), .inr (some a0)]) (rest := [.inr (some 14), .inl 1, .inr (some 0)]) dm_Ma_theorem_68 lc_Sc_equation lm_Ma_97 li_Sc_equation (nr rfl rfl) rfl rfl (scP_c hm.2.1.1).choose_spec rfl (nl rfl) (sk_eq hm vt w0 w0) ?_
      rintro _ h2 ⟨be, rfl, hm, ve, ge⟩
      have vt := rwA_S vt ge
      have G := gr_tr G ge (fun _ _ e => e) (Nat.le_refl _) (Nat.le_refl _)
      have w0 := rwA_S w0_0 G
      have m1 := hm.1
      show x_X _ 71 [some (.inr (some 0)), some (.inl 0), some (.inr (some a0))] [.inr (some be), .inr (some 14), .inl 1, .inr (some 0)] _ _
      refine xcV (as := [.inl 1, .inr (some 14), .inr (some be)]) (rest := []) dm_Ma_theorem_71 lc_Ma_finishTheorem lm_Ma_101 li_Ma_finishTheorem (nr rfl rfl) rfl rfl m1 rfl (nl rfl) (ma_fTh (n := 1) hg hm hm.2.2.2.2.2.2.2.1 ve rfl (by decide)) ?_
      rintro _ h3 ⟨rfl, hmF, gF⟩
      show x_X _ 74 [some (.inr (some 0)), some (.inl 0), some (.inr (some a0))] [.inl (fin9 M 1 (2, (eqn ty0 x0.2.1 x0.2.1).take 81, [])).1] _ _
      exact ⟨_, _, xb_i dm_Ma_theorem_74 rfl, rfl, hmF, gr_w (gr_tr (gr_SA G) gF (fun _ _ e => e) (Nat.le_refl _) (Nat.le_refl _)) (fun _ _ e => e) (by omega) (by omega)⟩
    rw [if_neg e0]
    by_cases e1 : c = 1
    · rw [if_pos e1]
      subst e1
      show x_X _ 14 [some (.inr (some 0)), some (.inl 1), some (.inr (some a0))] [.inl 1] _ _
      refine xx (xs_tableIn (off := 61) (tgt := 75) dm_Ma_theorem_14 (by unfold ir; omega) (by omega) (by omega) rfl rfl) ?_
      refine xx (xs_aload_n dm_Ma_theorem_75 rfl) ?_
      refine xx (xs_aload_n dm_Ma_theorem_76 rfl) ?_
      refine xcV (as := [.inr (some a0)]) (rest := []) dm_Ma_theorem_77 lc_Ma_assume lm_Ma_105 li_Ma_assume (nr rfl rfl) rfl rfl m1 rfl (nl rfl) (ma_assume hg hm hx0 w0 t0 l0) ?_
      rintro _ h1 ⟨rfl, hmF, gF⟩
      show x_X _ 80 [some (.inr (some 0)), some (.inl 1), some (.inr (some a0))] [.inl (st_assume M).1] _ _
      exact ⟨_, _, xb_i dm_Ma_theorem_80 rfl, rfl, hmF, gF⟩
    rw [if_neg e1]
    by_cases e2 : c = 2
    · rw [if_pos e2]
      subst e2
      show x_X _ 14 [some (.inr (some 0)), some (.inl 2), some (.inr (some a0))] [.inl 2] _ _
      refine xx (xs_tableIn (off := 67) (tgt := 81) dm_Ma_theorem_14 (by unfold ir; omega) (by omega) (by omega) rfl rfl) ?_
      refine xx (xs_aload_n dm_Ma_theorem_81 rfl) ?_
      refine xx (xs_aload_n dm_Ma_theorem_82 rfl) ?_
      refine xcV (as := [.inr (some a0)]) (rest := []) dm_Ma_theorem_83 lc_Ma_reduce lm_Ma_109 li_Ma_reduce (nr rfl rfl) rfl rfl m1 rfl (nl rfl) (ma_reduce hg hm hx0 w0 t0 l0) ?_
      rintro _ h1 ⟨rfl, hmF, gF⟩
      show x_X _ 86 [some (.inr (some 0)), some (.inl 2), some (.inr (some a0))] [.inl (st_beta M).1] _ _
      exact ⟨_, _, xb_i dm_Ma_theorem_86 rfl, rfl, hmF, gF⟩
    rw [if_neg e2]
    by_cases e3 : c = 3
    · rw [if_pos e3]
      subst e3
      show x_X _ 14 [some (.inr (some 0)), some (.inl 3), some (.inr (some a0))] [.inl 3] _ _
      refine xx (xs_tableIn (off := 73) (tgt := 87) dm_Ma_theorem_14 (by unfold ir; omega) (by omega) (by omega) rfl rfl) ?_
      refine xx (xs_aload_n dm_Ma_theorem_87 rfl) ?_
      refine xx (xs_aload_n dm_Ma_theorem_88 rfl) ?_
      refine xcV (as := [.inr (some a0)]) (rest := []) dm_Ma_theorem_89 lc_Ma_addAxiom lm_Ma_112 li_Ma_addAxiom (nr rfl rfl) rfl rfl m1 rfl (nl rfl) (ma_addAxiom hg hm hx0 w0 t0 l0) ?_
      rintro _ h1 ⟨rfl, hmF, gF⟩
      show x_X _ 92 [some (.inr (some 0)), some (.inl 3), some (.inr (some a0))] [.inl (st_axiom M).1] _ _
      exact ⟨_, _, xb_i dm_Ma_theorem_92 rfl, rfl, hmF, gF⟩
    rw [if_neg e3]
    by_cases e4 : c = 4
    · rw [if_pos e4]
      subst e4
      show x_X _ 14 [some (.inr (some 0)), some (.inl 4), some (.inr (some a0))] [.inl 4] _ _
      refine xx (xs_tableIn (off := 79) (tgt := 93) dm_Ma_theorem_14 (by unfold ir; omega) (by omega) (by omega) rfl rfl) ?_
      refine xx (xs_aload_n dm_Ma_theorem_93 rfl) ?_
      refine xx (xs_aload_n dm_Ma_theorem_94 rfl) ?_
      refine xcV (as := [.inr (some a0)]) (rest := []) dm_Ma_theorem_95 lc_Ma_define lm_Ma_115 li_Ma_define (nr rfl rfl) rfl rfl m1 rfl (nl rfl) (ma_define hg hm hx0 w0 t0 l0) ?_
      rintro _ h1 ⟨rfl, hmF, gF⟩
      show x_X _ 98 [some (.inr (some 0)), some (.inl 4), some (.inr (some a0))] [.inl (st_define M).1] _ _
      exact ⟨_, _, xb_i dm_Ma_theorem_98 rfl, rfl, hmF, gF⟩
    rw [if_neg e4]
    refine xx (xs_tableOut (tgt := 99) dm_Ma_theorem_14 hr (by omega) rfl) ?_
    refine xx (xs_iconst dm_Ma_theorem_99) ?_
    exact ⟨_, _, xb_i dm_Ma_theorem_100 rfl, rfl, hm, gr_w (gr_SA G) (fun _ _ e => e) (by omega) (by omega)⟩
  · subst e9
    show x_X _ 6 [some (.inr (some 0)), some (.inl c), none] [.inr none] _ _
    refine xx (xs_astore_n dm_Ma_theorem_6 (by decide)) ?_
    show x_X _ 7 [some (.inr (some 0)), some (.inl c), some (.inr none)] [] _ _
    refine xx (xs_aload_n dm_Ma_theorem_7 rfl) ?_
    refine xx (xs_ifnonnull_f dm_Ma_theorem_8) ?_
    refine xx (xs_iconst dm_Ma_theorem_11) ?_
    rw [show st_theorem M c = (1, M) from if_pos k0]
    exact ⟨_, _, xb_i dm_Ma_theorem_12 rfl, rfl, hm, gr_w (gr_SA G) (fun _ _ e => e) (by omega) (by omega)⟩
