/-! inst, instType -/
theorem ifo_nn {f : List Int → List Int} {hs : List (List Int)} : ∀ {x : List (List Int)}, (∀ y ∈ x, nn1 y) → (∀ y ∈ hs, nn1 (f y)) → ∀ y ∈ ifo f x hs, nn1 y := by
  induction hs with
  | nil => intro x h _; exact h
  | cons l hs ih =>
    intro x h ho
    exact ih (insC_nn h (fun s hs => ho l (by simp) s (List.mem_of_mem_take hs))) (fun y hy => ho y (List.mem_cons_of_mem _ hy))
set_option maxHeartbeats 4000000 in
set_option maxRecDepth 100000 in
theorem ma_inst_l {h : xH} {M : mS} {a2 a1 a0 aH rH ro0 mm0 y0 : Nat} {v u : List Int} {x0 : oB} {qo : List (Option Nat)} {C0 S0 : Nat} (hC : C0 ≤ 200) (hS : S0 ≤ 1000) (hg : gM M) (hm0 : cM h M) (w2_0 : rwA h a2 v) (w1_0 : rwA h a1 u) (nv : nn1 v) (c0_0 : h.1[a0]? = some (.inr (.inr (3, [.inl x0.1, .inr (some mm0), .inr (some y0)])))) (w0_0 : rwA h mm0 x0.2.1) (f0_0 : hyF h y0 ro0 qo x0.2.2) (yb0 : 14 ≤ y0) (rb0 : 14 ≤ ro0) (ge0 : 23 ≤ a0) (t0 : isTm [] x0.2.1 [1]) (hh0 : ∀ y ∈ x0.2.2, isTm [] y [1]) (n0 : x0.2.2.length ≤ 3) (nf : ∀ y ∈ x0.2.2, nn1 (rplC v u (y) 0)) (gaH : 23 ≤ aH) (grH : 23 ≤ rH) (gbH : h.1.length ≤ aH) (gcH : h.1.length ≤ rH) : ∀ (N j : Nat) (ii : Int) (h1 : xH) (ys : List (List Int)) (qH : List (Option Nat)), x0.2.2.length - j < N → j ≤ x0.2.2.length → ii = j → cM h1 M → hyF h1 aH rH qH ys → (∀ y ∈ ys, nn1 y) → gr pS (C0 + 2 * j) (S0 + 84 * j) h h1 → x_X mm_Ma_inst 70 [some (.inr (some 0)), some (.inr (some a2)), some (.inr (some a1)), some (.inr (some a0)), some (.inr (some aH)), some (.inl ii)] [] h1 (clP 250 1500 h (fin9 M 3 (2, (rplC v u (x0.2.1) 0).take 81, ifo (fun h => rplC v u h 0) ys (x0.2.2.drop j)))) := by
  intro N
  induction N with
  | zero => intro j ii h1 ys qH hN; omega
  | succ N ih =>
    intro j ii h1 ys qH hN hj hii hm FH nys G
    have m1 := hm.1
    have c0 := ce_S c0_0 G (by omega)
    have w0 := rwA_S w0_0 G
    have f0 := hyF_S f0_0 G yb0 rb0
    have w1 := rwA_S w1_0 G
    have w2 := rwA_S w2_0 G
    show x_X _ 70 [some (.inr (some 0)), some (.inr (some a2)), some (.inr (some a1)), some (.inr (some a0)), some (.inr (some aH)), some (.inl ii)] [] _ _
    refine xx (xs_iload dm_Ma_inst_70 rfl) ?_
    refine xx (xs_aload_n dm_Ma_inst_72 rfl) ?_
    refine xx (xs_getf dm_Ma_inst_73 lf_Ma_140 c0 rfl) ?_
    refine xx (xs_getf dm_Ma_inst_76 lf_Ma_161 f0.1 rfl) ?_
    refine xx_icmp_ge (tgt := 112) dm_Ma_inst_79 rfl (by unfold ir; omega) (by unfold ir; omega) (fun hc => ?_) (fun hc => ?_)
    · change x_X _ 112 _ _ _ _
      have ej : j = x0.2.2.length := by omega
      rw [ej, List.drop_length]
      refine xx (xs_aload_n dm_Ma_inst_112 rfl) ?_
      refine xx (xs_iconst dm_Ma_inst_113) ?_
      refine xx (xs_aload dm_Ma_inst_114 rfl) ?_
      refine xx (xs_aload_n dm_Ma_inst_116 rfl) ?_
      refine xx (xs_getf dm_Ma_inst_117 lf_Ma_10 m1 rfl) ?_
      refine xx (xs_aload_n dm_Ma_inst_120 rfl) ?_
      refine xx (xs_getf dm_Ma_inst_121 lf_Ma_132 c0 rfl) ?_
      refine xx (xs_aload_n dm_Ma_inst_124 rfl) ?_
      refine xx (xs_aload_n dm_Ma_inst_125 rfl) ?_
      refine xcV (as := [.inr (some mm0), .inr (some a2), .inr (some a1)]) (rest := [.inr (some aH), .inl 3, .inr (some 0)]) dm_Ma_inst_126 lc_Sc_replaceVariable lm_Ma_167 li_Sc_replaceVariable (nr rfl rfl) rfl rfl (scP_c hm.2.1.1).choose_spec rfl (nl rfl) (sk_rpl hm w0 w2 w1 nv) ?_
      rintro _ h2 ⟨br, rfl, hm, vr, gr⟩
      have G := gr_tr G gr (fun _ _ e => e) (Nat.le_refl _) (Nat.le_refl _)
      have c0 := ce_S c0_0 G (by omega)
      have w0 := rwA_S w0_0 G
      have f0 := hyF_S f0_0 G yb0 rb0
      have w1 := rwA_S w1_0 G
      have w2 := rwA_S w2_0 G
      have m1 := hm.1
      show x_X _ 129 [some (.inr (some 0)), some (.inr (some a2)), some (.inr (some a1)), some (.inr (some a0)), some (.inr (some aH)), some (.inl ii)] [.inr (some br), .inr (some aH), .inl 3, .inr (some 0)] _ _
      have FH := hyF_S FH gr (by omega) (by omega)
      refine xcV (as := [.inl 3, .inr (some aH), .inr (some br)]) (rest := []) dm_Ma_inst_129 lc_Ma_finishTheorem lm_Ma_101 li_Ma_finishTheorem (nr rfl rfl) rfl rfl m1 rfl (nl rfl) (ma_fTh (n := 3) hg hm (hyF_A FH (by omega) (by omega)) vr rfl (by decide)) ?_
      rintro _ h3 ⟨rfl, hmF, gF⟩
      show x_X _ 132 [some (.inr (some 0)), some (.inr (some a2)), some (.inr (some a1)), some (.inr (some a0)), some (.inr (some aH)), some (.inl ii)] [.inl (fin9 M 3 (2, (rplC v u (x0.2.1) 0).take 81, ys)).1] _ _
      exact ⟨_, _, xb_i dm_Ma_inst_132 rfl, rfl, hmF, gr_w (gr_tr (gr_SA G) gF (fun _ _ e => e) (Nat.le_refl _) (Nat.le_refl _)) (fun _ _ e => e) (by omega) (by omega)⟩
    · change x_X _ 82 _ _ _ _
      have hjl : j < x0.2.2.length := by omega
      obtain ⟨lj, hlj⟩ : ∃ l, x0.2.2[j]? = some l := ⟨_, List.getElem?_eq_getElem hjl⟩
      have hmj := List.mem_of_getElem? hlj
      obtain ⟨bj, hbj, wj⟩ := f0.2.2.2.2 j lj hlj
      have hq6 := f0.2.2.1
      rw [List.drop_eq_getElem_cons hjl, show x0.2.2[j] = lj from (List.getElem?_eq_some_iff.mp hlj).2]
      show x_X _ _ _ _ _ (clP 250 1500 h (fin9 M 3 (2, (rplC v u (x0.2.1) 0).take 81, ifo (fun h => rplC v u h 0) (insC ((rplC v u (lj) 0).take 81) ys) (x0.2.2.drop (j + 1)))))
      refine xx (xs_aload dm_Ma_inst_82 rfl) ?_
      refine xx (xs_aload_n dm_Ma_inst_84 rfl) ?_
      refine xx (xs_getf dm_Ma_inst_85 lf_Ma_10 m1 rfl) ?_
      refine xx (xs_aload_n dm_Ma_inst_88 rfl) ?_
      refine xx (xs_getf dm_Ma_inst_89 lf_Ma_140 c0 rfl) ?_
      refine xx (xs_getf dm_Ma_inst_92 lf_Ma_164 f0.1 rfl) ?_
      refine xx (xs_iload dm_Ma_inst_95 rfl) ?_
      refine xx (xs_aald (x := (some bj)) dm_Ma_inst_97 (by decide) f0.2.1 (by omega) (by rw [show ii.toNat = j by omega]; exact hbj) (by omega)) ?_
      refine xx (xs_aload_n dm_Ma_inst_98 rfl) ?_
      refine xx (xs_aload_n dm_Ma_inst_99 rfl) ?_
      refine xcV (as := [.inr (some bj), .inr (some a2), .inr (some a1)]) (rest := [.inr (some aH)]) dm_Ma_inst_100 lc_Sc_replaceVariable lm_Ma_167 li_Sc_replaceVariable (nr rfl rfl) rfl rfl (scP_c hm.2.1.1).choose_spec rfl (nl rfl) (sk_rpl hm wj w2 w1 nv) ?_
      rintro _ h2 ⟨br, rfl, hm, vr, gr⟩
      have G := gr_tr G gr (fun _ _ e => e) (Nat.le_refl _) (Nat.le_refl _)
      have c0 := ce_S c0_0 G (by omega)
      have w0 := rwA_S w0_0 G
      have f0 := hyF_S f0_0 G yb0 rb0
      have w1 := rwA_S w1_0 G
      have w2 := rwA_S w2_0 G
      have m1 := hm.1
      show x_X _ 103 [some (.inr (some 0)), some (.inr (some a2)), some (.inr (some a1)), some (.inr (some a0)), some (.inr (some aH)), some (.inl ii)] [.inr (some br), .inr (some aH)] _ _
      have FH := hyF_S FH gr (by omega) (by omega)
      have nl1 : nn1 ((rplC v u (lj) 0).take 81) := fun s hs => nf lj hmj s (List.mem_of_mem_take hs)
      refine xcV (as := [.inr (some br)]) (rest := []) dm_Ma_inst_103 lc_Hy_add lm_Ma_170 li_Hy_add (nr rfl rfl) rfl rfl FH.1 rfl (nl rfl) (hy_add FH vr nys nl1) ?_
      rintro _ h3 ⟨rfl, ⟨qH, F9⟩, g9⟩
      have vr := rwA_h vr g9 FH.1 FH.2.1
      have G := gr_tr G g9 (fun i hi e => by exfalso; rcases e with e | e <;> omega) (Nat.le_refl _) (Nat.le_refl _)
      have hm := cM_gr hm0 G (cP_h hm.2.1 g9 (by omega) (by omega)) (fun _ e => e)
      clear g9
      have FH := F9
      clear F9
      have c0 := ce_S c0_0 G (by omega)
      have w0 := rwA_S w0_0 G
      have f0 := hyF_S f0_0 G yb0 rb0
      have w1 := rwA_S w1_0 G
      have w2 := rwA_S w2_0 G
      have m1 := hm.1
      show x_X _ 106 [some (.inr (some 0)), some (.inr (some a2)), some (.inr (some a1)), some (.inr (some a0)), some (.inr (some aH)), some (.inl ii)] [] _ _
      refine xx (xs_iinc dm_Ma_inst_106 rfl (by decide)) ?_
      show x_X _ 109 [some (.inr (some 0)), some (.inr (some a2)), some (.inr (some a1)), some (.inr (some a0)), some (.inr (some aH)), some (.inl (ii + 1))] [] _ _
      refine xx (xs_goto (tgt := 70) dm_Ma_inst_109 rfl) ?_
      exact ih (j + 1) _ _ _ _ (by omega) (by omega) (by omega) hm FH (insC_nn nys nl1) (gr_w G (fun _ _ e => e) (by omega) (by omega))
set_option maxHeartbeats 4000000 in
set_option maxRecDepth 100000 in
theorem ma_instType_l {h : xH} {M : mS} {a1 a0 aH rH ro0 mm0 y0 : Nat} {K : Int} {u : List Int} {x0 : oB} {qo : List (Option Nat)} {C0 S0 : Nat} (hC : C0 ≤ 200) (hS : S0 ≤ 1000) (hg : gM M) (hm0 : cM h M) (w1_0 : rwA h a1 u) (hK : 0 ≤ K ∧ K ≤ 3) (c0_0 : h.1[a0]? = some (.inr (.inr (3, [.inl x0.1, .inr (some mm0), .inr (some y0)])))) (w0_0 : rwA h mm0 x0.2.1) (f0_0 : hyF h y0 ro0 qo x0.2.2) (yb0 : 14 ≤ y0) (rb0 : 14 ≤ ro0) (ge0 : 23 ≤ a0) (t0 : isTm [] x0.2.1 [1]) (hh0 : ∀ y ∈ x0.2.2, isTm [] y [1]) (n0 : x0.2.2.length ≤ 3) (nf : ∀ y ∈ x0.2.2, nn1 (rtC K u (y) 0)) (gaH : 23 ≤ aH) (grH : 23 ≤ rH) (gbH : h.1.length ≤ aH) (gcH : h.1.length ≤ rH) : ∀ (N j : Nat) (ii : Int) (h1 : xH) (ys : List (List Int)) (qH : List (Option Nat)), x0.2.2.length - j < N → j ≤ x0.2.2.length → ii = j → cM h1 M → hyF h1 aH rH qH ys → (∀ y ∈ ys, nn1 y) → gr pS (C0 + 2 * j) (S0 + 84 * j) h h1 → x_X mm_Ma_instType 47 [some (.inr (some 0)), some (.inl K), some (.inr (some a1)), some (.inr (some a0)), some (.inr (some aH)), some (.inl ii)] [] h1 (clP 250 1500 h (fin9 M 2 (2, (rtC K u (x0.2.1) 0).take 81, ifo (fun h => rtC K u h 0) ys (x0.2.2.drop j)))) := by
  intro N
  induction N with
  | zero => intro j ii h1 ys qH hN; omega
  | succ N ih =>
    intro j ii h1 ys qH hN hj hii hm FH nys G
    have m1 := hm.1
    have c0 := ce_S c0_0 G (by omega)
    have w0 := rwA_S w0_0 G
    have f0 := hyF_S f0_0 G yb0 rb0
    have w1 := rwA_S w1_0 G
    show x_X _ 47 [some (.inr (some 0)), some (.inl K), some (.inr (some a1)), some (.inr (some a0)), some (.inr (some aH)), some (.inl ii)] [] _ _
    refine xx (xs_iload dm_Ma_instType_47 rfl) ?_
    refine xx (xs_aload_n dm_Ma_instType_49 rfl) ?_
    refine xx (xs_getf dm_Ma_instType_50 lf_Ma_140 c0 rfl) ?_
    refine xx (xs_getf dm_Ma_instType_53 lf_Ma_161 f0.1 rfl) ?_
    refine xx_icmp_ge (tgt := 89) dm_Ma_instType_56 rfl (by unfold ir; omega) (by unfold ir; omega) (fun hc => ?_) (fun hc => ?_)
    · change x_X _ 89 _ _ _ _
      have ej : j = x0.2.2.length := by omega
      rw [ej, List.drop_length]
      refine xx (xs_aload_n dm_Ma_instType_89 rfl) ?_
      refine xx (xs_iconst dm_Ma_instType_90) ?_
      refine xx (xs_aload dm_Ma_instType_91 rfl) ?_
      refine xx (xs_aload_n dm_Ma_instType_93 rfl) ?_
      refine xx (xs_getf dm_Ma_instType_94 lf_Ma_10 m1 rfl) ?_
      refine xx (xs_aload_n dm_Ma_instType_97 rfl) ?_
      refine xx (xs_getf dm_Ma_instType_98 lf_Ma_132 c0 rfl) ?_
      refine xx (xs_iload_n dm_Ma_instType_101 rfl) ?_
      refine xx (xs_aload_n dm_Ma_instType_102 rfl) ?_
      refine xcV (as := [.inr (some mm0), .inl K, .inr (some a1)]) (rest := [.inr (some aH), .inl 2, .inr (some 0)]) dm_Ma_instType_103 lc_Sc_replaceTypeVariable lm_Ma_174 li_Sc_replaceTypeVariable (nr rfl rfl) rfl rfl (scP_c hm.2.1.1).choose_spec rfl (nl rfl) (sk_rt hm w0 w1 hK t0) ?_
      rintro _ h2 ⟨br, rfl, hm, vr, gr⟩
      have G := gr_tr G gr (fun _ _ e => e) (Nat.le_refl _) (Nat.le_refl _)
      have c0 := ce_S c0_0 G (by omega)
      have w0 := rwA_S w0_0 G
      have f0 := hyF_S f0_0 G yb0 rb0
      have w1 := rwA_S w1_0 G
      have m1 := hm.1
      show x_X _ 106 [some (.inr (some 0)), some (.inl K), some (.inr (some a1)), some (.inr (some a0)), some (.inr (some aH)), some (.inl ii)] [.inr (some br), .inr (some aH), .inl 2, .inr (some 0)] _ _
      have FH := hyF_S FH gr (by omega) (by omega)
      refine xcV (as := [.inl 2, .inr (some aH), .inr (some br)]) (rest := []) dm_Ma_instType_106 lc_Ma_finishTheorem lm_Ma_101 li_Ma_finishTheorem (nr rfl rfl) rfl rfl m1 rfl (nl rfl) (ma_fTh (n := 2) hg hm (hyF_A FH (by omega) (by omega)) vr rfl (by decide)) ?_
      rintro _ h3 ⟨rfl, hmF, gF⟩
      show x_X _ 109 [some (.inr (some 0)), some (.inl K), some (.inr (some a1)), some (.inr (some a0)), some (.inr (some aH)), some (.inl ii)] [.inl (fin9 M 2 (2, (rtC K u (x0.2.1) 0).take 81, ys)).1] _ _
      exact ⟨_, _, xb_i dm_Ma_instType_109 rfl, rfl, hmF, gr_w (gr_tr (gr_SA G) gF (fun _ _ e => e) (Nat.le_refl _) (Nat.le_refl _)) (fun _ _ e => e) (by omega) (by omega)⟩
    · change x_X _ 59 _ _ _ _
      have hjl : j < x0.2.2.length := by omega
      obtain ⟨lj, hlj⟩ : ∃ l, x0.2.2[j]? = some l := ⟨_, List.getElem?_eq_getElem hjl⟩
      have hmj := List.mem_of_getElem? hlj
      obtain ⟨bj, hbj, wj⟩ := f0.2.2.2.2 j lj hlj
      have hq6 := f0.2.2.1
      rw [List.drop_eq_getElem_cons hjl, show x0.2.2[j] = lj from (List.getElem?_eq_some_iff.mp hlj).2]
      show x_X _ _ _ _ _ (clP 250 1500 h (fin9 M 2 (2, (rtC K u (x0.2.1) 0).take 81, ifo (fun h => rtC K u h 0) (insC ((rtC K u (lj) 0).take 81) ys) (x0.2.2.drop (j + 1)))))
      refine xx (xs_aload dm_Ma_instType_59 rfl) ?_
      refine xx (xs_aload_n dm_Ma_instType_61 rfl) ?_
      refine xx (xs_getf dm_Ma_instType_62 lf_Ma_10 m1 rfl) ?_
      refine xx (xs_aload_n dm_Ma_instType_65 rfl) ?_
      refine xx (xs_getf dm_Ma_instType_66 lf_Ma_140 c0 rfl) ?_
      refine xx (xs_getf dm_Ma_instType_69 lf_Ma_164 f0.1 rfl) ?_
      refine xx (xs_iload dm_Ma_instType_72 rfl) ?_
      refine xx (xs_aald (x := (some bj)) dm_Ma_instType_74 (by decide) f0.2.1 (by omega) (by rw [show ii.toNat = j by omega]; exact hbj) (by omega)) ?_
      refine xx (xs_iload_n dm_Ma_instType_75 rfl) ?_
      refine xx (xs_aload_n dm_Ma_instType_76 rfl) ?_
      refine xcV (as := [.inr (some bj), .inl K, .inr (some a1)]) (rest := [.inr (some aH)]) dm_Ma_instType_77 lc_Sc_replaceTypeVariable lm_Ma_174 li_Sc_replaceTypeVariable (nr rfl rfl) rfl rfl (scP_c hm.2.1.1).choose_spec rfl (nl rfl) (sk_rt hm wj w1 hK (hh0 lj hmj)) ?_
      rintro _ h2 ⟨br, rfl, hm, vr, gr⟩
      have G := gr_tr G gr (fun _ _ e => e) (Nat.le_refl _) (Nat.le_refl _)
      have c0 := ce_S c0_0 G (by omega)
      have w0 := rwA_S w0_0 G
      have f0 := hyF_S f0_0 G yb0 rb0
      have w1 := rwA_S w1_0 G
      have m1 := hm.1
      show x_X _ 80 [some (.inr (some 0)), some (.inl K), some (.inr (some a1)), some (.inr (some a0)), some (.inr (some aH)), some (.inl ii)] [.inr (some br), .inr (some aH)] _ _
      have FH := hyF_S FH gr (by omega) (by omega)
      have nl1 : nn1 ((rtC K u (lj) 0).take 81) := fun s hs => nf lj hmj s (List.mem_of_mem_take hs)
      refine xcV (as := [.inr (some br)]) (rest := []) dm_Ma_instType_80 lc_Hy_add lm_Ma_170 li_Hy_add (nr rfl rfl) rfl rfl FH.1 rfl (nl rfl) (hy_add FH vr nys nl1) ?_
      rintro _ h3 ⟨rfl, ⟨qH, F9⟩, g9⟩
      have vr := rwA_h vr g9 FH.1 FH.2.1
      have G := gr_tr G g9 (fun i hi e => by exfalso; rcases e with e | e <;> omega) (Nat.le_refl _) (Nat.le_refl _)
      have hm := cM_gr hm0 G (cP_h hm.2.1 g9 (by omega) (by omega)) (fun _ e => e)
      clear g9
      have FH := F9
      clear F9
      have c0 := ce_S c0_0 G (by omega)
      have w0 := rwA_S w0_0 G
      have f0 := hyF_S f0_0 G yb0 rb0
      have w1 := rwA_S w1_0 G
      have m1 := hm.1
      show x_X _ 83 [some (.inr (some 0)), some (.inl K), some (.inr (some a1)), some (.inr (some a0)), some (.inr (some aH)), some (.inl ii)] [] _ _
      refine xx (xs_iinc dm_Ma_instType_83 rfl (by decide)) ?_
      show x_X _ 86 [some (.inr (some 0)), some (.inl K), some (.inr (some a1)), some (.inr (some a0)), some (.inr (some aH)), some (.inl (ii + 1))] [] _ _
      refine xx (xs_goto (tgt := 47) dm_Ma_instType_86 rfl) ?_
      exact ih (j + 1) _ _ _ _ (by omega) (by omega) (by omega) hm FH (insC_nn nys nl1) (gr_w G (fun _ _ e => e) (by omega) (by omega))
set_option maxHeartbeats 4000000 in
set_option maxRecDepth 100000 in
theorem ma_inst {h : xH} {M : mS} (hg : gM M) (hm : cM h M) : x_Mx mm_Ma_inst [.inr (some 0)] h (clP 250 1500 h (st_inst M)) := by
  refine xmx rfl (nl rfl) ?_
  have hm0 := hm
  have m1 := hm.1
  have G := gr_rf pS h
  show x_X _ 0 [some (.inr (some 0)), none, none, none, none, none] [] _ _
  have g6 := hg.2.2.2.2.2.1
  refine xx (xs_aload_n dm_Ma_inst_0 rfl) ?_
  refine xx (xs_iconst dm_Ma_inst_1) ?_
  refine xcV (as := [.inl 2]) (rest := []) dm_Ma_inst_2 lc_Ma_variableBelow lm_Ma_91 li_Ma_variableBelow (nr rfl rfl) rfl rfl m1 rfl (nl rfl) (ma_varB (i := 2) hg hm rfl (by decide)) ?_
  rintro r9 hx9 ⟨hhx9, hR⟩
  have hhx9 := hhx9.symm
  subst hhx9
  rcases hR with ⟨k2, a2, x2, hx2, e9, w2⟩ | ⟨k2, e9⟩
  · subst e9
    obtain ⟨ka2, kb2, kc2⟩ := kd_of hx2
    have hl2 := (List.getElem?_eq_some_iff.mp hx2).1
    have gx2 := gM_top hg hx2
    have w2_0 := w2
    show x_X _ 5 [some (.inr (some 0)), none, none, none, none, none] [.inr (some a2)] _ _
    refine xx (xs_astore_n dm_Ma_inst_5 (by decide)) ?_
    show x_X _ 6 [some (.inr (some 0)), some (.inr (some a2)), none, none, none, none] [] _ _
    refine xx (xs_aload_n dm_Ma_inst_6 rfl) ?_
    refine xx (xs_iconst dm_Ma_inst_7) ?_
    refine xx (xs_iconst dm_Ma_inst_8) ?_
    refine xcV (as := [.inl 1, .inl 1]) (rest := []) dm_Ma_inst_9 lc_Ma_rowBelow lm_Ma_65 li_Ma_rowBelow (nr rfl rfl) rfl rfl m1 rfl (nl rfl) (ma_rowB (i := 1) hg hm rfl (by decide) (by decide)) ?_
    rintro r9 hx9 ⟨hhx9, hR⟩
    have hhx9 := hhx9.symm
    subst hhx9
    rcases hR with ⟨k1, a1, x1, hx1, e9, w1⟩ | ⟨k1, e9⟩
    · subst e9
      obtain ⟨ka1, kb1, kc1⟩ := kd_of hx1
      have hl1 := (List.getElem?_eq_some_iff.mp hx1).1
      have gx1 := gM_top hg hx1
      have w1_0 := w1
      show x_X _ 12 [some (.inr (some 0)), some (.inr (some a2)), none, none, none, none] [.inr (some a1)] _ _
      refine xx (xs_astore_n dm_Ma_inst_12 (by decide)) ?_
      show x_X _ 13 [some (.inr (some 0)), some (.inr (some a2)), some (.inr (some a1)), none, none, none] [] _ _
      refine xx (xs_aload_n dm_Ma_inst_13 rfl) ?_
      refine xx (xs_iconst dm_Ma_inst_14) ?_
      refine xx (xs_iconst dm_Ma_inst_15) ?_
      refine xcV (as := [.inl 0, .inl 2]) (rest := []) dm_Ma_inst_16 lc_Ma_itemBelow lm_Ma_118 li_Ma_itemBelow (nr rfl rfl) rfl rfl m1 rfl (nl rfl) (ma_itemB (i := 0) hg hm rfl (by decide) (by decide)) ?_
      rintro r9 hx9 ⟨hhx9, hR⟩
      have hhx9 := hhx9.symm
      subst hhx9
      rcases hR with ⟨k0, a0, x0, hx0, e9, i0⟩ | ⟨k0, e9⟩
      · subst e9
        obtain ⟨ka0, kb0, kc0⟩ := kd_of hx0
        have hl0 := (List.getElem?_eq_some_iff.mp hx0).1
        have gx0 := gM_top hg hx0
        have i0_0 := i0
        obtain ⟨ge0, mm0, y0, c0, w0, hy0⟩ := i0
        have c0_0 := c0
        have w0_0 := w0
        have hy0_0 := hy0
        show x_X _ 19 [some (.inr (some 0)), some (.inr (some a2)), some (.inr (some a1)), none, none, none] [.inr (some a0)] _ _
        obtain ⟨t0, l0, n0, s0, hh0⟩ := gO_2 gx0 (by rw [← ka0]; exact k0)
        obtain ⟨n, c, ev, tc, nn0, nn7⟩ := vb_of hg hx2 k2
        have ev : x2.2.1 = 10 :: n :: c := ev
        obtain ⟨⟨ty1, t1⟩, l1, -⟩ := gO_1 gx1 (by rw [← ka1]; exact k1)
        obtain ⟨-, l2, -⟩ := gO_1 gx2 (by rw [← ka2]; exact k2.1)
        rw [ev] at w2 w2_0 l2
        have tv : isTm [] (10 :: n :: c) c := isTm_v nn0 nn7 tc
        have ok : c = ty1 → ∀ y, isTm [] y [1] → isTm [] (rplC (10 :: n :: c) x1.2.1 y 0) [1] := fun e y hy => by
          rw [← e] at t1
          exact rpl_ok (by omega) tc t1 hy
        have est : st_inst M = ifc (c = ty1) (fin9 M 3 (2, (rplC (10 :: n :: c) x1.2.1 x0.2.1 0).take 81, ifo (fun h => rplC (10 :: n :: c) x1.2.1 h 0) [] (x0.2.2.drop 0))) (2, M) := by
          unfold st_inst
          rw [ifc_t ⟨k2, k1, k0⟩, kb2, kb1, kb0, kc0, ev, tyO_of t1]
          show ifc (c = ty1) _ _ = _
          by_cases hc : c = ty1
          · rw [ifc_t hc, ifc_t hc, ← fin9_fi (Or.inr rfl) (hR_hfo (hR_0 _) (fun y hy => ok hc y (hh0 y hy).1)) (by omega)]
            rfl
          · rw [ifc_f hc, ifc_f hc]
        rw [est]
        refine xx (xs_astore_n dm_Ma_inst_19 (by decide)) ?_
        show x_X _ 20 [some (.inr (some 0)), some (.inr (some a2)), some (.inr (some a1)), some (.inr (some a0)), none, none] [] _ _
        refine xx (xs_aload_n dm_Ma_inst_20 rfl) ?_
        refine xx (xs_ifnull_f dm_Ma_inst_21) ?_
        refine xx (xs_aload_n dm_Ma_inst_24 rfl) ?_
        refine xx (xs_ifnull_f dm_Ma_inst_25) ?_
        refine xx (xs_aload_n dm_Ma_inst_28 rfl) ?_
        refine xx (xs_ifnonnull_t (tgt := 34) dm_Ma_inst_29 rfl) ?_
        refine xx (xs_aload_n dm_Ma_inst_34 rfl) ?_
        refine xx (xs_getf dm_Ma_inst_35 lf_Ma_10 m1 rfl) ?_
        refine xx (xs_aload_n dm_Ma_inst_38 rfl) ?_
        refine xcV (as := [.inr (some a2)]) (rest := []) dm_Ma_inst_39 lc_Sc_typeOf lm_Ma_80 li_Sc_typeOf (nr rfl rfl) rfl rfl (scP_c hm.2.1.1).choose_spec rfl (nl rfl) (sk_ty hm w2 l2 tv) ?_
        rintro _ h1 ⟨bs, rfl, hm, vs, gs⟩
        have G := gr_tr G gs (fun _ _ e => e) (Nat.le_refl _) (Nat.le_refl _)
        have w2 := rwA_S w2_0 G
        have w1 := rwA_S w1_0 G
        have c0 := ce_S c0_0 G (by omega)
        have w0 := rwA_S w0_0 G
        have hy0 := hyA_S hy0_0 G
        have m1 := hm.1
        show x_X _ 42 [some (.inr (some 0)), some (.inr (some a2)), some (.inr (some a1)), some (.inr (some a0)), none, none] [.inr (some bs)] _ _
        refine xx (xs_aload_n dm_Ma_inst_42 rfl) ?_
        refine xx (xs_getf dm_Ma_inst_43 lf_Ma_10 m1 rfl) ?_
        refine xx (xs_aload_n dm_Ma_inst_46 rfl) ?_
        refine xcV (as := [.inr (some a1)]) (rest := [.inr (some bs)]) dm_Ma_inst_47 lc_Sc_typeOf lm_Ma_80 li_Sc_typeOf (nr rfl rfl) rfl rfl (scP_c hm.2.1.1).choose_spec rfl (nl rfl) (sk_ty hm w1 l1 t1) ?_
        rintro _ h2 ⟨bt, rfl, hm, vt, gt⟩
        have vs := rwA_S vs gt
        have G := gr_tr G gt (fun _ _ e => e) (Nat.le_refl _) (Nat.le_refl _)
        have w2 := rwA_S w2_0 G
        have w1 := rwA_S w1_0 G
        have c0 := ce_S c0_0 G (by omega)
        have w0 := rwA_S w0_0 G
        have hy0 := hyA_S hy0_0 G
        have m1 := hm.1
        show x_X _ 50 [some (.inr (some 0)), some (.inr (some a2)), some (.inr (some a1)), some (.inr (some a0)), none, none] [.inr (some bt), .inr (some bs)] _ _
        obtain ⟨sf, sc⟩ := rwA_c vs
        refine xcV (as := [.inr (some bt)]) (rest := []) dm_Ma_inst_50 lc_Ro_same lm_Ma_158 li_Ro_same (nr rfl rfl) rfl rfl sc rfl (nl rfl) (ro_same vs vt (nn_ne (nn_ty (isTm_ty t1)))) ?_
        rintro _ hx9 ⟨rfl, hhx9⟩
        have hhx9 := hhx9.symm
        subst hhx9
        show x_X _ 53 [some (.inr (some 0)), some (.inr (some a2)), some (.inr (some a1)), some (.inr (some a0)), none, none] [.inl (if c = ty1 then 1 else 0)] _ _
        by_cases hc : c = ty1
        · rw [if_pos hc, ifc_t hc]
          show x_X _ 53 [some (.inr (some 0)), some (.inr (some a2)), some (.inr (some a1)), some (.inr (some a0)), none, none] [.inl 1] _ _
          refine xx (xs_if_ne_t (tgt := 58) dm_Ma_inst_53 rfl (by unfold ir; omega) (by omega)) ?_
          refine xx (xs_new dm_Ma_inst_58 ln_Ma_43) ?_
          obtain ⟨aH, eaH⟩ : ∃ a, a = h2.1.length := ⟨_, rfl⟩
          rw [← eaH]
          obtain ⟨h3, hh3⟩ : ∃ hX : xH, hX = (h2.1 ++ [.inr (.inr (2, [.inr none, .inl 0]))], h2.2 + 2) := ⟨_, rfl⟩
          show x_X _ 61 [some (.inr (some 0)), some (.inr (some a2)), some (.inr (some a1)), some (.inr (some a0)), none, none] [.inr (some aH)] (h2.1 ++ [.inr (.inr (2, [.inr none, .inl 0]))], h2.2 + 2) _
          rw [← hh3]
          have caH : h3.1[aH]? = some (.inr (.inr (2, [.inr none, .inl 0]))) := by rw [hh3, eaH]; exact push_at
          have gAH : gr (fun _ => False) 1 2 h2 h3 := by rw [hh3]; exact gr_push _
          have leH : h3.1.length = h2.1.length + 1 := by rw [hh3]; simp
          have gaH : 23 ≤ aH := by rw [eaH]; exact hm.2.2.2.2.2.2.2.2
          have gbH : h.1.length ≤ aH := by rw [eaH]; exact G.1.1
          refine xx (xs_dup dm_Ma_inst_61) ?_
          refine xcI (as := []) (rest := [.inr (some aH)]) dm_Ma_inst_62 lc_Hy_init lm_Ma_45 li_Hy_init (nr rfl rfl) rfl rfl (nl rfl) (hy_init caH) ?_
          rintro _ h4 ⟨FH, gBH⟩
          show x_X _ 65 [some (.inr (some 0)), some (.inr (some a2)), some (.inr (some a1)), some (.inr (some a0)), none, none] [.inr (some aH)] _ _
          obtain ⟨rH, erH⟩ : ∃ r, r = h3.1.length := ⟨_, rfl⟩
          rw [← erH] at FH
          have gCH : gr (fun _ => False) 2 8 h2 h4 := gr_tr gAH (P' := fun i => i = aH) gBH (fun i hi e => by have : i = aH := e; omega) (Nat.le_refl _) (Nat.le_refl _)
          have hm := cM_new hm gCH
          have gSH := gr_S gCH (fun i e => e.elim)
          have vs := rwA_S vs gSH
          have vt := rwA_S vt gSH
          have G := gr_tr G gSH (fun _ _ e => e) (Nat.le_refl _) (Nat.le_refl _)
          have w2 := rwA_S w2_0 G
          have w1 := rwA_S w1_0 G
          have c0 := ce_S c0_0 G (by omega)
          have w0 := rwA_S w0_0 G
          have hy0 := hyA_S hy0_0 G
          have m1 := hm.1
          refine xx (xs_astore dm_Ma_inst_65 (by decide)) ?_
          show x_X _ 67 [some (.inr (some 0)), some (.inr (some a2)), some (.inr (some a1)), some (.inr (some a0)), some (.inr (some aH)), none] [] _ _
          refine xx (xs_iconst dm_Ma_inst_67) ?_
          refine xx (xs_istore dm_Ma_inst_68 (by decide)) ?_
          show x_X _ 70 [some (.inr (some 0)), some (.inr (some a2)), some (.inr (some a1)), some (.inr (some a0)), some (.inr (some aH)), some (.inl 0)] [] _ _
          obtain ⟨ro0, qo0, f0, yb0, rb0, -, -⟩ := hyA_F hy0_0
          exact ma_inst_l (C0 := 200) (S0 := 1000) (Nat.le_refl _) (Nat.le_refl _) hg hm0 w2_0 w1_0 (nn_tm tv) c0_0 w0_0 f0 yb0 rb0 ge0 t0 (fun y hy => (hh0 y hy).1) n0 (fun y hy => nn_tm (ok hc y (hh0 y hy).1)) gaH (by omega) gbH (by omega) _ 0 _ _ _ _ (Nat.lt_succ_self _) (Nat.zero_le _) rfl hm FH (by simp) (gr_w G (fun _ _ e => e) (by omega) (by omega))
        · rw [if_neg hc, ifc_f hc]
          show x_X _ 53 [some (.inr (some 0)), some (.inr (some a2)), some (.inr (some a1)), some (.inr (some a0)), none, none] [.inl 0] _ _
          refine xx (xs_if_ne_f (tgt := 58) dm_Ma_inst_53 rfl (by unfold ir; omega) (by omega)) ?_
          refine xx (xs_iconst dm_Ma_inst_56) ?_
          exact ⟨_, _, xb_i dm_Ma_inst_57 rfl, rfl, hm, gr_w (gr_SA G) (fun _ _ e => e) (by omega) (by omega)⟩
      · subst e9
        show x_X _ 19 [some (.inr (some 0)), some (.inr (some a2)), some (.inr (some a1)), none, none, none] [.inr none] _ _
        refine xx (xs_astore_n dm_Ma_inst_19 (by decide)) ?_
        show x_X _ 20 [some (.inr (some 0)), some (.inr (some a2)), some (.inr (some a1)), some (.inr none), none, none] [] _ _
        refine xx (xs_aload_n dm_Ma_inst_20 rfl) ?_
        refine xx (xs_ifnull_f dm_Ma_inst_21) ?_
        refine xx (xs_aload_n dm_Ma_inst_24 rfl) ?_
        refine xx (xs_ifnull_f dm_Ma_inst_25) ?_
        refine xx (xs_aload_n dm_Ma_inst_28 rfl) ?_
        refine xx (xs_ifnonnull_f dm_Ma_inst_29) ?_
        refine xx (xs_iconst dm_Ma_inst_32) ?_
        rw [show st_inst M = (1, M) from ifc_f (fun e => k0 e.2.2) _ _]
        exact ⟨_, _, xb_i dm_Ma_inst_33 rfl, rfl, hm, gr_w (gr_SA G) (fun _ _ e => e) (by omega) (by omega)⟩
    · subst e9
      show x_X _ 12 [some (.inr (some 0)), some (.inr (some a2)), none, none, none, none] [.inr none] _ _
      refine xx (xs_astore_n dm_Ma_inst_12 (by decide)) ?_
      show x_X _ 13 [some (.inr (some 0)), some (.inr (some a2)), some (.inr none), none, none, none] [] _ _
      refine xx (xs_aload_n dm_Ma_inst_13 rfl) ?_
      refine xx (xs_iconst dm_Ma_inst_14) ?_
      refine xx (xs_iconst dm_Ma_inst_15) ?_
      refine xcV (as := [.inl 0, .inl 2]) (rest := []) dm_Ma_inst_16 lc_Ma_itemBelow lm_Ma_118 li_Ma_itemBelow (nr rfl rfl) rfl rfl m1 rfl (nl rfl) (ma_itemB (i := 0) hg hm rfl (by decide) (by decide)) ?_
      rintro r9 hx9 ⟨hhx9, hR⟩
      have hhx9 := hhx9.symm
      subst hhx9
      rcases hR with ⟨k0, a0, x0, hx0, e9, i0⟩ | ⟨k0, e9⟩
      · subst e9
        obtain ⟨ka0, kb0, kc0⟩ := kd_of hx0
        have hl0 := (List.getElem?_eq_some_iff.mp hx0).1
        have gx0 := gM_top hg hx0
        have i0_0 := i0
        obtain ⟨ge0, mm0, y0, c0, w0, hy0⟩ := i0
        have c0_0 := c0
        have w0_0 := w0
        have hy0_0 := hy0
        show x_X _ 19 [some (.inr (some 0)), some (.inr (some a2)), some (.inr none), none, none, none] [.inr (some a0)] _ _
        refine xx (xs_astore_n dm_Ma_inst_19 (by decide)) ?_
        show x_X _ 20 [some (.inr (some 0)), some (.inr (some a2)), some (.inr none), some (.inr (some a0)), none, none] [] _ _
        refine xx (xs_aload_n dm_Ma_inst_20 rfl) ?_
        refine xx (xs_ifnull_f dm_Ma_inst_21) ?_
        refine xx (xs_aload_n dm_Ma_inst_24 rfl) ?_
        refine xx (xs_ifnull_t (tgt := 32) dm_Ma_inst_25 rfl) ?_
        refine xx (xs_iconst dm_Ma_inst_32) ?_
        rw [show st_inst M = (1, M) from ifc_f (fun e => k1 e.2.1) _ _]
        exact ⟨_, _, xb_i dm_Ma_inst_33 rfl, rfl, hm, gr_w (gr_SA G) (fun _ _ e => e) (by omega) (by omega)⟩
      · subst e9
        show x_X _ 19 [some (.inr (some 0)), some (.inr (some a2)), some (.inr none), none, none, none] [.inr none] _ _
        refine xx (xs_astore_n dm_Ma_inst_19 (by decide)) ?_
        show x_X _ 20 [some (.inr (some 0)), some (.inr (some a2)), some (.inr none), some (.inr none), none, none] [] _ _
        refine xx (xs_aload_n dm_Ma_inst_20 rfl) ?_
        refine xx (xs_ifnull_f dm_Ma_inst_21) ?_
        refine xx (xs_aload_n dm_Ma_inst_24 rfl) ?_
        refine xx (xs_ifnull_t (tgt := 32) dm_Ma_inst_25 rfl) ?_
        refine xx (xs_iconst dm_Ma_inst_32) ?_
        rw [show st_inst M = (1, M) from ifc_f (fun e => k1 e.2.1) _ _]
        exact ⟨_, _, xb_i dm_Ma_inst_33 rfl, rfl, hm, gr_w (gr_SA G) (fun _ _ e => e) (by omega) (by omega)⟩
  · subst e9
    show x_X _ 5 [some (.inr (some 0)), none, none, none, none, none] [.inr none] _ _
    refine xx (xs_astore_n dm_Ma_inst_5 (by decide)) ?_
    show x_X _ 6 [some (.inr (some 0)), some (.inr none), none, none, none, none] [] _ _
    refine xx (xs_aload_n dm_Ma_inst_6 rfl) ?_
    refine xx (xs_iconst dm_Ma_inst_7) ?_
    refine xx (xs_iconst dm_Ma_inst_8) ?_
    refine xcV (as := [.inl 1, .inl 1]) (rest := []) dm_Ma_inst_9 lc_Ma_rowBelow lm_Ma_65 li_Ma_rowBelow (nr rfl rfl) rfl rfl m1 rfl (nl rfl) (ma_rowB (i := 1) hg hm rfl (by decide) (by decide)) ?_
    rintro r9 hx9 ⟨hhx9, hR⟩
    have hhx9 := hhx9.symm
    subst hhx9
    rcases hR with ⟨k1, a1, x1, hx1, e9, w1⟩ | ⟨k1, e9⟩
    · subst e9
      obtain ⟨ka1, kb1, kc1⟩ := kd_of hx1
      have hl1 := (List.getElem?_eq_some_iff.mp hx1).1
      have gx1 := gM_top hg hx1
      have w1_0 := w1
      show x_X _ 12 [some (.inr (some 0)), some (.inr none), none, none, none, none] [.inr (some a1)] _ _
      refine xx (xs_astore_n dm_Ma_inst_12 (by decide)) ?_
      show x_X _ 13 [some (.inr (some 0)), some (.inr none), some (.inr (some a1)), none, none, none] [] _ _
      refine xx (xs_aload_n dm_Ma_inst_13 rfl) ?_
      refine xx (xs_iconst dm_Ma_inst_14) ?_
      refine xx (xs_iconst dm_Ma_inst_15) ?_
      refine xcV (as := [.inl 0, .inl 2]) (rest := []) dm_Ma_inst_16 lc_Ma_itemBelow lm_Ma_118 li_Ma_itemBelow (nr rfl rfl) rfl rfl m1 rfl (nl rfl) (ma_itemB (i := 0) hg hm rfl (by decide) (by decide)) ?_
      rintro r9 hx9 ⟨hhx9, hR⟩
      have hhx9 := hhx9.symm
      subst hhx9
      rcases hR with ⟨k0, a0, x0, hx0, e9, i0⟩ | ⟨k0, e9⟩
      · subst e9
        obtain ⟨ka0, kb0, kc0⟩ := kd_of hx0
        have hl0 := (List.getElem?_eq_some_iff.mp hx0).1
        have gx0 := gM_top hg hx0
        have i0_0 := i0
        obtain ⟨ge0, mm0, y0, c0, w0, hy0⟩ := i0
        have c0_0 := c0
        have w0_0 := w0
        have hy0_0 := hy0
        show x_X _ 19 [some (.inr (some 0)), some (.inr none), some (.inr (some a1)), none, none, none] [.inr (some a0)] _ _
        refine xx (xs_astore_n dm_Ma_inst_19 (by decide)) ?_
        show x_X _ 20 [some (.inr (some 0)), some (.inr none), some (.inr (some a1)), some (.inr (some a0)), none, none] [] _ _
        refine xx (xs_aload_n dm_Ma_inst_20 rfl) ?_
        refine xx (xs_ifnull_t (tgt := 32) dm_Ma_inst_21 rfl) ?_
        refine xx (xs_iconst dm_Ma_inst_32) ?_
        rw [show st_inst M = (1, M) from ifc_f (fun e => k2 e.1) _ _]
        exact ⟨_, _, xb_i dm_Ma_inst_33 rfl, rfl, hm, gr_w (gr_SA G) (fun _ _ e => e) (by omega) (by omega)⟩
      · subst e9
        show x_X _ 19 [some (.inr (some 0)), some (.inr none), some (.inr (some a1)), none, none, none] [.inr none] _ _
        refine xx (xs_astore_n dm_Ma_inst_19 (by decide)) ?_
        show x_X _ 20 [some (.inr (some 0)), some (.inr none), some (.inr (some a1)), some (.inr none), none, none] [] _ _
        refine xx (xs_aload_n dm_Ma_inst_20 rfl) ?_
        refine xx (xs_ifnull_t (tgt := 32) dm_Ma_inst_21 rfl) ?_
        refine xx (xs_iconst dm_Ma_inst_32) ?_
        rw [show st_inst M = (1, M) from ifc_f (fun e => k2 e.1) _ _]
        exact ⟨_, _, xb_i dm_Ma_inst_33 rfl, rfl, hm, gr_w (gr_SA G) (fun _ _ e => e) (by omega) (by omega)⟩
    · subst e9
      show x_X _ 12 [some (.inr (some 0)), some (.inr none), none, none, none, none] [.inr none] _ _
      refine xx (xs_astore_n dm_Ma_inst_12 (by decide)) ?_
      show x_X _ 13 [some (.inr (some 0)), some (.inr none), some (.inr none), none, none, none] [] _ _
      refine xx (xs_aload_n dm_Ma_inst_13 rfl) ?_
      refine xx (xs_iconst dm_Ma_inst_14) ?_
      refine xx (xs_iconst dm_Ma_inst_15) ?_
      refine xcV (as := [.inl 0, .inl 2]) (rest := []) dm_Ma_inst_16 lc_Ma_itemBelow lm_Ma_118 li_Ma_itemBelow (nr rfl rfl) rfl rfl m1 rfl (nl rfl) (ma_itemB (i := 0) hg hm rfl (by decide) (by decide)) ?_
      rintro r9 hx9 ⟨hhx9, hR⟩
      have hhx9 := hhx9.symm
      subst hhx9
      rcases hR with ⟨k0, a0, x0, hx0, e9, i0⟩ | ⟨k0, e9⟩
      · subst e9
        obtain ⟨ka0, kb0, kc0⟩ := kd_of hx0
        have hl0 := (List.getElem?_eq_some_iff.mp hx0).1
        have gx0 := gM_top hg hx0
        have i0_0 := i0
        obtain ⟨ge0, mm0, y0, c0, w0, hy0⟩ := i0
        have c0_0 := c0
        have w0_0 := w0
        have hy0_0 := hy0
        show x_X _ 19 [some (.inr (some 0)), some (.inr none), some (.inr none), none, none, none] [.inr (some a0)] _ _
        refine xx (xs_astore_n dm_Ma_inst_19 (by decide)) ?_
        show x_X _ 20 [some (.inr (some 0)), some (.inr none), some (.inr none), some (.inr (some a0)), none, none] [] _ _
        refine xx (xs_aload_n dm_Ma_inst_20 rfl) ?_
        refine xx (xs_ifnull_t (tgt := 32) dm_Ma_inst_21 rfl) ?_
        refine xx (xs_iconst dm_Ma_inst_32) ?_
        rw [show st_inst M = (1, M) from ifc_f (fun e => k2 e.1) _ _]
        exact ⟨_, _, xb_i dm_Ma_inst_33 rfl, rfl, hm, gr_w (gr_SA G) (fun _ _ e => e) (by omega) (by omega)⟩
      · subst e9
        show x_X _ 19 [some (.inr (some 0)), some (.inr none), some (.inr none), none, none, none] [.inr none] _ _
        refine xx (xs_astore_n dm_Ma_inst_19 (by decide)) ?_
        show x_X _ 20 [some (.inr (some 0)), some (.inr none), some (.inr none), some (.inr none), none, none] [] _ _
        refine xx (xs_aload_n dm_Ma_inst_20 rfl) ?_
        refine xx (xs_ifnull_t (tgt := 32) dm_Ma_inst_21 rfl) ?_
        refine xx (xs_iconst dm_Ma_inst_32) ?_
        rw [show st_inst M = (1, M) from ifc_f (fun e => k2 e.1) _ _]
        exact ⟨_, _, xb_i dm_Ma_inst_33 rfl, rfl, hm, gr_w (gr_SA G) (fun _ _ e => e) (by omega) (by omega)⟩
set_option maxHeartbeats 4000000 in
set_option maxRecDepth 100000 in
theorem ma_instType {h : xH} {M : mS} {K : Int} (hg : gM M) (hm : cM h M) (hr : ir K) : x_Mx mm_Ma_instType [.inr (some 0), .inl K] h (clP 250 1500 h (st_instT M K)) := by
  refine xmx rfl (nl rfl) ?_
  have hm0 := hm
  have m1 := hm.1
  have G := gr_rf pS h
  show x_X _ 0 [some (.inr (some 0)), some (.inl K), none, none, none, none] [] _ _
  have g6 := hg.2.2.2.2.2.1
  refine xx (xs_aload_n dm_Ma_instType_0 rfl) ?_
  refine xx (xs_iconst dm_Ma_instType_1) ?_
  refine xx (xs_iconst dm_Ma_instType_2) ?_
  refine xcV (as := [.inl 1, .inl 0]) (rest := []) dm_Ma_instType_3 lc_Ma_rowBelow lm_Ma_65 li_Ma_rowBelow (nr rfl rfl) rfl rfl m1 rfl (nl rfl) (ma_rowB (i := 1) hg hm rfl (by decide) (by decide)) ?_
  rintro r9 hx9 ⟨hhx9, hR⟩
  have hhx9 := hhx9.symm
  subst hhx9
  rcases hR with ⟨k1, a1, x1, hx1, e9, w1⟩ | ⟨k1, e9⟩
  · subst e9
    obtain ⟨ka1, kb1, kc1⟩ := kd_of hx1
    have hl1 := (List.getElem?_eq_some_iff.mp hx1).1
    have gx1 := gM_top hg hx1
    have w1_0 := w1
    show x_X _ 6 [some (.inr (some 0)), some (.inl K), none, none, none, none] [.inr (some a1)] _ _
    refine xx (xs_astore_n dm_Ma_instType_6 (by decide)) ?_
    show x_X _ 7 [some (.inr (some 0)), some (.inl K), some (.inr (some a1)), none, none, none] [] _ _
    refine xx (xs_aload_n dm_Ma_instType_7 rfl) ?_
    refine xx (xs_iconst dm_Ma_instType_8) ?_
    refine xx (xs_iconst dm_Ma_instType_9) ?_
    refine xcV (as := [.inl 0, .inl 2]) (rest := []) dm_Ma_instType_10 lc_Ma_itemBelow lm_Ma_118 li_Ma_itemBelow (nr rfl rfl) rfl rfl m1 rfl (nl rfl) (ma_itemB (i := 0) hg hm rfl (by decide) (by decide)) ?_
    rintro r9 hx9 ⟨hhx9, hR⟩
    have hhx9 := hhx9.symm
    subst hhx9
    rcases hR with ⟨k0, a0, x0, hx0, e9, i0⟩ | ⟨k0, e9⟩
    · subst e9
      obtain ⟨ka0, kb0, kc0⟩ := kd_of hx0
      have hl0 := (List.getElem?_eq_some_iff.mp hx0).1
      have gx0 := gM_top hg hx0
      have i0_0 := i0
      obtain ⟨ge0, mm0, y0, c0, w0, hy0⟩ := i0
      have c0_0 := c0
      have w0_0 := w0
      have hy0_0 := hy0
      show x_X _ 13 [some (.inr (some 0)), some (.inl K), some (.inr (some a1)), none, none, none] [.inr (some a0)] _ _
      refine xx (xs_astore_n dm_Ma_instType_13 (by decide)) ?_
      show x_X _ 14 [some (.inr (some 0)), some (.inl K), some (.inr (some a1)), some (.inr (some a0)), none, none] [] _ _
      refine xx (xs_aload_n dm_Ma_instType_14 rfl) ?_
      refine xx (xs_ifnull_f dm_Ma_instType_15) ?_
      refine xx (xs_aload_n dm_Ma_instType_18 rfl) ?_
      refine xx (xs_ifnonnull_t (tgt := 24) dm_Ma_instType_19 rfl) ?_
      refine xx (xs_iload_n dm_Ma_instType_24 rfl) ?_
      refine xx_if_lt (tgt := 33) dm_Ma_instType_25 rfl hr (fun hc => ?_) (fun hc => ?_)
      · change x_X _ 33 _ _ _ _
        refine xx (xs_iconst dm_Ma_instType_33) ?_
        rw [show st_instT M K = (2, M) by unfold st_instT; rw [if_neg (fun e => e ⟨k1, k0⟩), if_pos (by omega)]]
        exact ⟨_, _, xb_i dm_Ma_instType_34 rfl, rfl, hm, gr_w (gr_SA G) (fun _ _ e => e) (by omega) (by omega)⟩
      · change x_X _ 28 _ _ _ _
        refine xx (xs_iload_n dm_Ma_instType_28 rfl) ?_
        refine xx (xs_iconst dm_Ma_instType_29) ?_
        refine xx_icmp_lt (tgt := 35) dm_Ma_instType_30 rfl hr (by unfold ir; omega) (fun hc2 => ?_) (fun hc2 => ?_)
        · change x_X _ 35 _ _ _ _
          obtain ⟨t0, l0, n0, s0, hh0⟩ := gO_2 gx0 (by rw [← ka0]; exact k0)
          obtain ⟨ty1, l1, -⟩ := gO_0 gx1 (by rw [← ka1]; exact k1)
          have ok : ∀ y, isTm [] y [1] → isTm [] (rtC K x1.2.1 y 0) [1] := fun y hy => by
            have := rt_ok (k := K) (by omega) ty1 hy 0
            rw [show tsb K x1.2.1 [1] = [1] by unfold tsb; simp; omega] at this
            exact this
          rw [show st_instT M K = fin9 M 2 (2, (rtC K x1.2.1 x0.2.1 0).take 81, ifo (fun h => rtC K x1.2.1 h 0) [] (x0.2.2.drop 0)) by
            unfold st_instT
            rw [if_neg (fun e => e ⟨k1, k0⟩), if_neg (by omega), kb1, kb0, kc0, ← fin9_fi (Or.inr rfl) (hR_hfo (hR_0 _) (fun y hy => ok y (hh0 y hy).1)) (by omega)]
            rfl]
          refine xx (xs_new dm_Ma_instType_35 ln_Ma_43) ?_
          obtain ⟨aH, eaH⟩ : ∃ a, a = h.1.length := ⟨_, rfl⟩
          rw [← eaH]
          obtain ⟨h1, hh1⟩ : ∃ hX : xH, hX = (h.1 ++ [.inr (.inr (2, [.inr none, .inl 0]))], h.2 + 2) := ⟨_, rfl⟩
          show x_X _ 38 [some (.inr (some 0)), some (.inl K), some (.inr (some a1)), some (.inr (some a0)), none, none] [.inr (some aH)] (h.1 ++ [.inr (.inr (2, [.inr none, .inl 0]))], h.2 + 2) _
          rw [← hh1]
          have caH : h1.1[aH]? = some (.inr (.inr (2, [.inr none, .inl 0]))) := by rw [hh1, eaH]; exact push_at
          have gAH : gr (fun _ => False) 1 2 h h1 := by rw [hh1]; exact gr_push _
          have leH : h1.1.length = h.1.length + 1 := by rw [hh1]; simp
          have gaH : 23 ≤ aH := by rw [eaH]; exact hm.2.2.2.2.2.2.2.2
          have gbH : h.1.length ≤ aH := by rw [eaH]; exact G.1.1
          refine xx (xs_dup dm_Ma_instType_38) ?_
          refine xcI (as := []) (rest := [.inr (some aH)]) dm_Ma_instType_39 lc_Hy_init lm_Ma_45 li_Hy_init (nr rfl rfl) rfl rfl (nl rfl) (hy_init caH) ?_
          rintro _ h2 ⟨FH, gBH⟩
          show x_X _ 42 [some (.inr (some 0)), some (.inl K), some (.inr (some a1)), some (.inr (some a0)), none, none] [.inr (some aH)] _ _
          obtain ⟨rH, erH⟩ : ∃ r, r = h1.1.length := ⟨_, rfl⟩
          rw [← erH] at FH
          have gCH : gr (fun _ => False) 2 8 h h2 := gr_tr gAH (P' := fun i => i = aH) gBH (fun i hi e => by have : i = aH := e; omega) (Nat.le_refl _) (Nat.le_refl _)
          have hm := cM_new hm gCH
          have gSH := gr_S gCH (fun i e => e.elim)
          have G := gr_tr G gSH (fun _ _ e => e) (Nat.le_refl _) (Nat.le_refl _)
          have w1 := rwA_S w1_0 G
          have c0 := ce_S c0_0 G (by omega)
          have w0 := rwA_S w0_0 G
          have hy0 := hyA_S hy0_0 G
          have m1 := hm.1
          refine xx (xs_astore dm_Ma_instType_42 (by decide)) ?_
          show x_X _ 44 [some (.inr (some 0)), some (.inl K), some (.inr (some a1)), some (.inr (some a0)), some (.inr (some aH)), none] [] _ _
          refine xx (xs_iconst dm_Ma_instType_44) ?_
          refine xx (xs_istore dm_Ma_instType_45 (by decide)) ?_
          show x_X _ 47 [some (.inr (some 0)), some (.inl K), some (.inr (some a1)), some (.inr (some a0)), some (.inr (some aH)), some (.inl 0)] [] _ _
          obtain ⟨ro0, qo0, f0, yb0, rb0, -, -⟩ := hyA_F hy0_0
          exact ma_instType_l (C0 := 200) (S0 := 1000) (Nat.le_refl _) (Nat.le_refl _) hg hm0 w1_0 (by omega) c0_0 w0_0 f0 yb0 rb0 ge0 t0 (fun y hy => (hh0 y hy).1) n0 (fun y hy => nn_tm (ok y (hh0 y hy).1)) gaH (by omega) gbH (by omega) _ 0 _ _ _ _ (Nat.lt_succ_self _) (Nat.zero_le _) rfl hm FH (by simp) (gr_w G (fun _ _ e => e) (by omega) (by omega))
        · change x_X _ 33 _ _ _ _
          refine xx (xs_iconst dm_Ma_instType_33) ?_
          rw [show st_instT M K = (2, M) by unfold st_instT; rw [if_neg (fun e => e ⟨k1, k0⟩), if_pos (by omega)]]
          exact ⟨_, _, xb_i dm_Ma_instType_34 rfl, rfl, hm, gr_w (gr_SA G) (fun _ _ e => e) (by omega) (by omega)⟩
    · subst e9
      show x_X _ 13 [some (.inr (some 0)), some (.inl K), some (.inr (some a1)), none, none, none] [.inr none] _ _
      refine xx (xs_astore_n dm_Ma_instType_13 (by decide)) ?_
      show x_X _ 14 [some (.inr (some 0)), some (.inl K), some (.inr (some a1)), some (.inr none), none, none] [] _ _
      refine xx (xs_aload_n dm_Ma_instType_14 rfl) ?_
      refine xx (xs_ifnull_f dm_Ma_instType_15) ?_
      refine xx (xs_aload_n dm_Ma_instType_18 rfl) ?_
      refine xx (xs_ifnonnull_f dm_Ma_instType_19) ?_
      refine xx (xs_iconst dm_Ma_instType_22) ?_
      rw [show st_instT M K = (1, M) from if_pos (fun e => k0 e.2)]
      exact ⟨_, _, xb_i dm_Ma_instType_23 rfl, rfl, hm, gr_w (gr_SA G) (fun _ _ e => e) (by omega) (by omega)⟩
  · subst e9
    show x_X _ 6 [some (.inr (some 0)), some (.inl K), none, none, none, none] [.inr none] _ _
    refine xx (xs_astore_n dm_Ma_instType_6 (by decide)) ?_
    show x_X _ 7 [some (.inr (some 0)), some (.inl K), some (.inr none), none, none, none] [] _ _
    refine xx (xs_aload_n dm_Ma_instType_7 rfl) ?_
    refine xx (xs_iconst dm_Ma_instType_8) ?_
    refine xx (xs_iconst dm_Ma_instType_9) ?_
    refine xcV (as := [.inl 0, .inl 2]) (rest := []) dm_Ma_instType_10 lc_Ma_itemBelow lm_Ma_118 li_Ma_itemBelow (nr rfl rfl) rfl rfl m1 rfl (nl rfl) (ma_itemB (i := 0) hg hm rfl (by decide) (by decide)) ?_
    rintro r9 hx9 ⟨hhx9, hR⟩
    have hhx9 := hhx9.symm
    subst hhx9
    rcases hR with ⟨k0, a0, x0, hx0, e9, i0⟩ | ⟨k0, e9⟩
    · subst e9
      obtain ⟨ka0, kb0, kc0⟩ := kd_of hx0
      have hl0 := (List.getElem?_eq_some_iff.mp hx0).1
      have gx0 := gM_top hg hx0
      have i0_0 := i0
      obtain ⟨ge0, mm0, y0, c0, w0, hy0⟩ := i0
      have c0_0 := c0
      have w0_0 := w0
      have hy0_0 := hy0
      show x_X _ 13 [some (.inr (some 0)), some (.inl K), some (.inr none), none, none, none] [.inr (some a0)] _ _
      refine xx (xs_astore_n dm_Ma_instType_13 (by decide)) ?_
      show x_X _ 14 [some (.inr (some 0)), some (.inl K), some (.inr none), some (.inr (some a0)), none, none] [] _ _
      refine xx (xs_aload_n dm_Ma_instType_14 rfl) ?_
      refine xx (xs_ifnull_t (tgt := 22) dm_Ma_instType_15 rfl) ?_
      refine xx (xs_iconst dm_Ma_instType_22) ?_
      rw [show st_instT M K = (1, M) from if_pos (fun e => k1 e.1)]
      exact ⟨_, _, xb_i dm_Ma_instType_23 rfl, rfl, hm, gr_w (gr_SA G) (fun _ _ e => e) (by omega) (by omega)⟩
    · subst e9
      show x_X _ 13 [some (.inr (some 0)), some (.inl K), some (.inr none), none, none, none] [.inr none] _ _
      refine xx (xs_astore_n dm_Ma_instType_13 (by decide)) ?_
      show x_X _ 14 [some (.inr (some 0)), some (.inl K), some (.inr none), some (.inr none), none, none] [] _ _
      refine xx (xs_aload_n dm_Ma_instType_14 rfl) ?_
      refine xx (xs_ifnull_t (tgt := 22) dm_Ma_instType_15 rfl) ?_
      refine xx (xs_iconst dm_Ma_instType_22) ?_
      rw [show st_instT M K = (1, M) from if_pos (fun e => k1 e.1)]
      exact ⟨_, _, xb_i dm_Ma_instType_23 rfl, rfl, hm, gr_w (gr_SA G) (fun _ _ e => e) (by omega) (by omega)⟩
