/-! equations and hypotheses of the machine -/
theorem cP_h {h hf : xH} {a ra C S : Nat} (hp : cP h) (hg : gr (pH a ra) C S h hf) (ha : 23 ≤ a) (hra : 23 ≤ ra) : cP hf := by
  obtain ⟨p1, ⟨q, B, p2⟩, ⟨bi, b1, b2, b3⟩⟩ := hp
  exact ⟨scP_gr p1 hg (fun e => by rcases e with e | e <;> omega) (fun e => by rcases e with e | e <;> omega), ⟨q, B, scD_gr p2 hg (fun e => by rcases e with e | e <;> omega) (fun e => by rcases e with e | e <;> omega)⟩, ⟨bi, b1, hg.2 5 _ (fun e => by rcases e with e | e <;> omega) b2, fun d c hd => by simp at hd⟩⟩
theorem hyA_F {h : xH} {a : Nat} {hs : List (List Int)} (hy : hyA h a hs) : ∃ ra q, hyF h a ra q hs ∧ 14 ≤ a ∧ 14 ≤ ra ∧ a < h.1.length ∧ ra < h.1.length := by
  obtain ⟨r1, s, f, A, r3, r4⟩ := hy
  exact ⟨s, f, ⟨r3, r4⟩, r1, A, (List.getElem?_eq_some_iff.mp r3).1, (List.getElem?_eq_some_iff.mp r4.1).1⟩
theorem hyF_S {h hf : xH} {a ra C S : Nat} {q : List (Option Nat)} {hs : List (List Int)} (hy : hyF h a ra q hs) (hg : gr pS C S h hf) (ha : 14 ≤ a) (hra : 14 ≤ ra) : hyF hf a ra q hs := hyF_h hy hg (fun e => by have := e.2; omega) (fun e => by have := e.2; omega) (fun i hi e => by have := e.2; omega)
theorem isE_of {t : List Int} (h0 : atL t 0 = 12) (h1 : atL t 1 = 12) (h2 : atL t 2 = 11) (h3 : atL t 3 = 0) : isE t := by
  rcases t with _ | ⟨a, _ | ⟨b, _ | ⟨c, _ | ⟨d, r⟩⟩⟩⟩
  · rw [atL_o (by simp)] at h0; omega
  · rw [atL_o (by simp)] at h1; omega
  · rw [atL_o (by simp)] at h2; omega
  · rw [atL_o (by simp)] at h3; omega
  · rw [atL_0] at h0
    rw [atL_1] at h1
    rw [atL_2] at h2
    rw [atL_3] at h3
    exact ⟨r, by rw [h0, h1, h2, h3]⟩
theorem nn_g {x : oB} (h : gO x) : nn1 x.2.1 ∧ ∀ y ∈ x.2.2, nn1 y := by
  rcases h with ⟨_, a, _, e⟩ | ⟨_, ⟨b, a⟩, _, e⟩ | ⟨_, a, _, _, _, f⟩
  · exact ⟨nn_ty a, by rw [e]; simp⟩
  · exact ⟨nn_tm a, by rw [e]; simp⟩
  · exact ⟨nn_tm a, fun y hy => nn_tm (f y hy).1⟩
theorem hfc_nn {os : List (List Int)} : ∀ {x : List (List Int)}, (∀ y ∈ x, nn1 y) → (∀ y ∈ os, nn1 y) → ∀ y ∈ hfc x os, nn1 y := by
  induction os with
  | nil => intro x h _; exact h
  | cons l os ih =>
    intro x h ho
    exact ih (insC_nn h (ho l (by simp))) (fun y hy => ho y (List.mem_cons_of_mem _ hy))
set_option maxHeartbeats 4000000 in
set_option maxRecDepth 100000 in
theorem ma_eqIn {h : xH} {M : mS} {a : Nat} {t ty : List Int} (hm : cM h M) (ha : rwA h a t) (ht : isTm [] t ty) : x_Mx mm_Ma_equationIn [.inr (some 0), .inr (some a)] h (fun r hf => (isE t ∧ ∃ e b1 b2 b3, r = some (.inr (some e)) ∧ 23 ≤ e ∧ hf.1[e]? = some (.inr (.inr (1, [.inr (some b1), .inr (some b2), .inr (some b3)]))) ∧ rwA hf b1 (eqx t).1 ∧ rwA hf b2 (eqx t).2.1 ∧ rwA hf b3 (eqx t).2.2 ∧ cM hf M ∧ gr pS 4 12 h hf) ∨ (¬ isE t ∧ r = some (.inr none) ∧ hf = h)) := by
  refine xmx rfl (nl rfl) ?_
  have hm0 := hm
  have m1 := hm.1
  have G := gr_rf pS h
  show x_X _ 0 [some (.inr (some 0)), some (.inr (some a)), none] [] _ _
  obtain ⟨af, ac⟩ := rwA_c ha
  have ai := ha.2.1
  by_cases hE : isE t
  · obtain ⟨-, ea, el, er, hq⟩ := eqP_of ht hE
    obtain ⟨rr, et⟩ := hE
    refine xx (xs_aload_n dm_Ma_equationIn_0 rfl) ?_
    refine xx (xs_iconst dm_Ma_equationIn_1) ?_
    refine xcV (as := [.inl 0]) (rest := []) dm_Ma_equationIn_2 lc_Ro_at lm_Ma_211 li_Ro_at (nr rfl rfl) rfl rfl ac rfl (nl rfl) (ro_at ha (by unfold ir; omega)) ?_
    rintro _ hx9 ⟨rfl, hhx9⟩
    have hhx9 := hhx9.symm
    subst hhx9
    show x_X _ 5 [some (.inr (some 0)), some (.inr (some a)), none] [.inl (atL t 0)] _ _
    rw [show atL t 0 = 12 by rw [et]; exact atL_0]
    show x_X _ 5 [some (.inr (some 0)), some (.inr (some a)), none] [.inl 12] _ _
    refine xx (xs_bipush dm_Ma_equationIn_5 (by decide)) ?_
    refine xx (xs_icmp_ne_f (tgt := 42) dm_Ma_equationIn_7 rfl (by unfold ir; omega) (by unfold ir; omega) (by omega)) ?_
    refine xx (xs_aload_n dm_Ma_equationIn_10 rfl) ?_
    refine xx (xs_iconst dm_Ma_equationIn_11) ?_
    refine xcV (as := [.inl 1]) (rest := []) dm_Ma_equationIn_12 lc_Ro_at lm_Ma_211 li_Ro_at (nr rfl rfl) rfl rfl ac rfl (nl rfl) (ro_at ha (by unfold ir; omega)) ?_
    rintro _ hx9 ⟨rfl, hhx9⟩
    have hhx9 := hhx9.symm
    subst hhx9
    show x_X _ 15 [some (.inr (some 0)), some (.inr (some a)), none] [.inl (atL t 1)] _ _
    rw [show atL t 1 = 12 by rw [et]; exact atL_1]
    show x_X _ 15 [some (.inr (some 0)), some (.inr (some a)), none] [.inl 12] _ _
    refine xx (xs_bipush dm_Ma_equationIn_15 (by decide)) ?_
    refine xx (xs_icmp_ne_f (tgt := 42) dm_Ma_equationIn_17 rfl (by unfold ir; omega) (by unfold ir; omega) (by omega)) ?_
    refine xx (xs_aload_n dm_Ma_equationIn_20 rfl) ?_
    refine xx (xs_iconst dm_Ma_equationIn_21) ?_
    refine xcV (as := [.inl 2]) (rest := []) dm_Ma_equationIn_22 lc_Ro_at lm_Ma_211 li_Ro_at (nr rfl rfl) rfl rfl ac rfl (nl rfl) (ro_at ha (by unfold ir; omega)) ?_
    rintro _ hx9 ⟨rfl, hhx9⟩
    have hhx9 := hhx9.symm
    subst hhx9
    show x_X _ 25 [some (.inr (some 0)), some (.inr (some a)), none] [.inl (atL t 2)] _ _
    rw [show atL t 2 = 11 by rw [et]; exact atL_2]
    show x_X _ 25 [some (.inr (some 0)), some (.inr (some a)), none] [.inl 11] _ _
    refine xx (xs_bipush dm_Ma_equationIn_25 (by decide)) ?_
    refine xx (xs_icmp_ne_f (tgt := 42) dm_Ma_equationIn_27 rfl (by unfold ir; omega) (by unfold ir; omega) (by omega)) ?_
    refine xx (xs_aload_n dm_Ma_equationIn_30 rfl) ?_
    refine xx (xs_iconst dm_Ma_equationIn_31) ?_
    refine xcV (as := [.inl 3]) (rest := []) dm_Ma_equationIn_32 lc_Ro_at lm_Ma_211 li_Ro_at (nr rfl rfl) rfl rfl ac rfl (nl rfl) (ro_at ha (by unfold ir; omega)) ?_
    rintro _ hx9 ⟨rfl, hhx9⟩
    have hhx9 := hhx9.symm
    subst hhx9
    show x_X _ 35 [some (.inr (some 0)), some (.inr (some a)), none] [.inl (atL t 3)] _ _
    rw [show atL t 3 = 0 by rw [et]; exact atL_3]
    show x_X _ 35 [some (.inr (some 0)), some (.inr (some a)), none] [.inl 0] _ _
    refine xx (xs_if_ne_f (tgt := 42) dm_Ma_equationIn_35 rfl (by unfold ir; omega) (by omega)) ?_
    refine xx (xs_iconst dm_Ma_equationIn_38) ?_
    refine xx (xs_goto (tgt := 43) dm_Ma_equationIn_39 rfl) ?_
    refine xx (xs_istore_n dm_Ma_equationIn_43 (by decide)) ?_
    show x_X _ 44 [some (.inr (some 0)), some (.inr (some a)), some (.inl 1)] [] _ _
    refine xx (xs_iload_n dm_Ma_equationIn_44 rfl) ?_
    refine xx (xs_if_eq_f (tgt := 59) dm_Ma_equationIn_45 rfl (by unfold ir; omega) (by omega)) ?_
    refine xx (xs_new dm_Ma_equationIn_48 ln_Ma_148) ?_
    obtain ⟨aE, eaE⟩ : ∃ a, a = h.1.length := ⟨_, rfl⟩
    rw [← eaE]
    obtain ⟨h1, hh1⟩ : ∃ hX : xH, hX = (h.1 ++ [.inr (.inr (1, [.inr none, .inr none, .inr none]))], h.2 + 3) := ⟨_, rfl⟩
    show x_X _ 51 [some (.inr (some 0)), some (.inr (some a)), some (.inl 1)] [.inr (some aE)] (h.1 ++ [.inr (.inr (1, [.inr none, .inr none, .inr none]))], h.2 + 3) _
    rw [← hh1]
    have caE : h1.1[aE]? = some (.inr (.inr (1, [.inr none, .inr none, .inr none]))) := by rw [hh1, eaE]; exact push_at
    have gAE : gr (fun _ => False) 1 3 h h1 := by rw [hh1]; exact gr_push _
    have leE : h1.1.length = h.1.length + 1 := by rw [hh1]; simp
    have gaE : 23 ≤ aE := by rw [eaE]; exact hm.2.2.2.2.2.2.2.2
    have gbE : h.1.length ≤ aE := by rw [eaE]; exact G.1.1
    refine xx (xs_dup dm_Ma_equationIn_51) ?_
    refine xx (xs_aload_n dm_Ma_equationIn_52 rfl) ?_
    have ha := rwA_lo ha gAE (fun _ _ e => e)
    refine xcI (as := [.inr (some a)]) (rest := [.inr (some aE)]) dm_Ma_equationIn_53 lc_Eq_init lm_Ma_251 li_Eq_init (nr rfl rfl) rfl rfl (nl rfl) (eq_init caE ha hq) ?_
    rintro _ h2 ⟨⟨b1, b2, b3, e1, e2, e3, e4⟩, gB⟩
    show x_X _ 56 [some (.inr (some 0)), some (.inr (some a)), some (.inl 1)] [.inr (some aE)] _ _
    have gC : gr (fun _ => False) 4 12 h h2 := gr_tr gAE (P' := fun i => i = aE) gB (fun i hi e => by have : i = aE := e; omega) (Nat.le_refl _) (Nat.le_refl _)
    refine xx (xs_goto (tgt := 60) dm_Ma_equationIn_56 rfl) ?_
    exact ⟨_, _, xb_a dm_Ma_equationIn_60 rfl (Or.inl ⟨_, rfl⟩), Or.inl ⟨⟨rr, et⟩, aE, b1, b2, b3, rfl, gaE, e1, by rw [eqx_of hq]; exact e2, by rw [eqx_of hq]; exact e3, by rw [eqx_of hq]; exact e4, cM_new hm gC, gr_S gC (fun i e => e.elim)⟩⟩
  · refine xx (xs_aload_n dm_Ma_equationIn_0 rfl) ?_
    refine xx (xs_iconst dm_Ma_equationIn_1) ?_
    refine xcV (as := [.inl 0]) (rest := []) dm_Ma_equationIn_2 lc_Ro_at lm_Ma_211 li_Ro_at (nr rfl rfl) rfl rfl ac rfl (nl rfl) (ro_at ha (by unfold ir; omega)) ?_
    rintro _ hx9 ⟨rfl, hhx9⟩
    have hhx9 := hhx9.symm
    subst hhx9
    show x_X _ 5 [some (.inr (some 0)), some (.inr (some a)), none] [.inl (atL t 0)] _ _
    refine xx (xs_bipush dm_Ma_equationIn_5 (by decide)) ?_
    refine xx_icmp_ne (tgt := 42) dm_Ma_equationIn_7 rfl (atL_ir ai _) (by unfold ir; omega) (fun hc0 => ?_) (fun hc0 => ?_)
    · change x_X _ 42 _ _ _ _
      refine xx (xs_iconst dm_Ma_equationIn_42) ?_
      refine xx (xs_istore_n dm_Ma_equationIn_43 (by decide)) ?_
      show x_X _ 44 [some (.inr (some 0)), some (.inr (some a)), some (.inl 0)] [] _ _
      refine xx (xs_iload_n dm_Ma_equationIn_44 rfl) ?_
      refine xx (xs_if_eq_t (tgt := 59) dm_Ma_equationIn_45 rfl (by unfold ir; omega) rfl) ?_
      refine xx (xs_null dm_Ma_equationIn_59) ?_
      exact ⟨_, _, xb_a dm_Ma_equationIn_60 rfl (Or.inl ⟨_, rfl⟩), Or.inr ⟨hE, rfl, rfl⟩⟩
    · change x_X _ 10 _ _ _ _
      refine xx (xs_aload_n dm_Ma_equationIn_10 rfl) ?_
      refine xx (xs_iconst dm_Ma_equationIn_11) ?_
      refine xcV (as := [.inl 1]) (rest := []) dm_Ma_equationIn_12 lc_Ro_at lm_Ma_211 li_Ro_at (nr rfl rfl) rfl rfl ac rfl (nl rfl) (ro_at ha (by unfold ir; omega)) ?_
      rintro _ hx9 ⟨rfl, hhx9⟩
      have hhx9 := hhx9.symm
      subst hhx9
      show x_X _ 15 [some (.inr (some 0)), some (.inr (some a)), none] [.inl (atL t 1)] _ _
      refine xx (xs_bipush dm_Ma_equationIn_15 (by decide)) ?_
      refine xx_icmp_ne (tgt := 42) dm_Ma_equationIn_17 rfl (atL_ir ai _) (by unfold ir; omega) (fun hc1 => ?_) (fun hc1 => ?_)
      · change x_X _ 42 _ _ _ _
        refine xx (xs_iconst dm_Ma_equationIn_42) ?_
        refine xx (xs_istore_n dm_Ma_equationIn_43 (by decide)) ?_
        show x_X _ 44 [some (.inr (some 0)), some (.inr (some a)), some (.inl 0)] [] _ _
        refine xx (xs_iload_n dm_Ma_equationIn_44 rfl) ?_
        refine xx (xs_if_eq_t (tgt := 59) dm_Ma_equationIn_45 rfl (by unfold ir; omega) rfl) ?_
        refine xx (xs_null dm_Ma_equationIn_59) ?_
        exact ⟨_, _, xb_a dm_Ma_equationIn_60 rfl (Or.inl ⟨_, rfl⟩), Or.inr ⟨hE, rfl, rfl⟩⟩
      · change x_X _ 20 _ _ _ _
        refine xx (xs_aload_n dm_Ma_equationIn_20 rfl) ?_
        refine xx (xs_iconst dm_Ma_equationIn_21) ?_
        refine xcV (as := [.inl 2]) (rest := []) dm_Ma_equationIn_22 lc_Ro_at lm_Ma_211 li_Ro_at (nr rfl rfl) rfl rfl ac rfl (nl rfl) (ro_at ha (by unfold ir; omega)) ?_
        rintro _ hx9 ⟨rfl, hhx9⟩
        have hhx9 := hhx9.symm
        subst hhx9
        show x_X _ 25 [some (.inr (some 0)), some (.inr (some a)), none] [.inl (atL t 2)] _ _
        refine xx (xs_bipush dm_Ma_equationIn_25 (by decide)) ?_
        refine xx_icmp_ne (tgt := 42) dm_Ma_equationIn_27 rfl (atL_ir ai _) (by unfold ir; omega) (fun hc2 => ?_) (fun hc2 => ?_)
        · change x_X _ 42 _ _ _ _
          refine xx (xs_iconst dm_Ma_equationIn_42) ?_
          refine xx (xs_istore_n dm_Ma_equationIn_43 (by decide)) ?_
          show x_X _ 44 [some (.inr (some 0)), some (.inr (some a)), some (.inl 0)] [] _ _
          refine xx (xs_iload_n dm_Ma_equationIn_44 rfl) ?_
          refine xx (xs_if_eq_t (tgt := 59) dm_Ma_equationIn_45 rfl (by unfold ir; omega) rfl) ?_
          refine xx (xs_null dm_Ma_equationIn_59) ?_
          exact ⟨_, _, xb_a dm_Ma_equationIn_60 rfl (Or.inl ⟨_, rfl⟩), Or.inr ⟨hE, rfl, rfl⟩⟩
        · change x_X _ 30 _ _ _ _
          refine xx (xs_aload_n dm_Ma_equationIn_30 rfl) ?_
          refine xx (xs_iconst dm_Ma_equationIn_31) ?_
          refine xcV (as := [.inl 3]) (rest := []) dm_Ma_equationIn_32 lc_Ro_at lm_Ma_211 li_Ro_at (nr rfl rfl) rfl rfl ac rfl (nl rfl) (ro_at ha (by unfold ir; omega)) ?_
          rintro _ hx9 ⟨rfl, hhx9⟩
          have hhx9 := hhx9.symm
          subst hhx9
          show x_X _ 35 [some (.inr (some 0)), some (.inr (some a)), none] [.inl (atL t 3)] _ _
          refine xx_if_ne (tgt := 42) dm_Ma_equationIn_35 rfl (atL_ir ai _) (fun hc3 => ?_) (fun hc3 => ?_)
          · change x_X _ 42 _ _ _ _
            refine xx (xs_iconst dm_Ma_equationIn_42) ?_
            refine xx (xs_istore_n dm_Ma_equationIn_43 (by decide)) ?_
            show x_X _ 44 [some (.inr (some 0)), some (.inr (some a)), some (.inl 0)] [] _ _
            refine xx (xs_iload_n dm_Ma_equationIn_44 rfl) ?_
            refine xx (xs_if_eq_t (tgt := 59) dm_Ma_equationIn_45 rfl (by unfold ir; omega) rfl) ?_
            refine xx (xs_null dm_Ma_equationIn_59) ?_
            exact ⟨_, _, xb_a dm_Ma_equationIn_60 rfl (Or.inl ⟨_, rfl⟩), Or.inr ⟨hE, rfl, rfl⟩⟩
          · change x_X _ 38 _ _ _ _
            exact absurd (isE_of hc0 hc1 hc2 hc3) hE
set_option maxHeartbeats 4000000 in
set_option maxRecDepth 100000 in
theorem ma_both {h : xH} {M : mS} {a1 a0 : Nat} {x1 x0 : oB} (hm : cM h M) (i1 : itA h a1 x1) (i0 : itA h a0 x0) (g1 : gO x1) (g0 : gO x0) : x_Mx mm_Ma_hypothesesOfBoth [.inr (some 0), .inr (some a1), .inr (some a0)] h (fun r hf => ∃ y, r = some (.inr (some y)) ∧ hyA hf y (hfc (hfc [] x1.2.2) x0.2.2) ∧ cM hf M ∧ gr pS 2 8 h hf) := by
  refine xmx rfl (nl rfl) ?_
  have hm0 := hm
  have m1 := hm.1
  have G := gr_rf pS h
  show x_X _ 0 [some (.inr (some 0)), some (.inr (some a1)), some (.inr (some a0)), none] [] _ _
  obtain ⟨ge1, m1, y1, c1, w1, hy1⟩ := i1
  have c1_0 := c1
  obtain ⟨ro1, qo1, f1, yb1, rb1, yl1, rl1⟩ := hyA_F hy1
  have f1_0 := f1
  obtain ⟨ge0, m0, y0, c0, w0, hy0⟩ := i0
  have c0_0 := c0
  obtain ⟨ro0, qo0, f0, yb0, rb0, yl0, rl0⟩ := hyA_F hy0
  have f0_0 := f0
  refine xx (xs_new dm_Ma_hypothesesOfBoth_0 ln_Ma_43) ?_
  obtain ⟨aH, eaH⟩ : ∃ a, a = h.1.length := ⟨_, rfl⟩
  rw [← eaH]
  obtain ⟨h1, hh1⟩ : ∃ hX : xH, hX = (h.1 ++ [.inr (.inr (2, [.inr none, .inl 0]))], h.2 + 2) := ⟨_, rfl⟩
  show x_X _ 3 [some (.inr (some 0)), some (.inr (some a1)), some (.inr (some a0)), none] [.inr (some aH)] (h.1 ++ [.inr (.inr (2, [.inr none, .inl 0]))], h.2 + 2) _
  rw [← hh1]
  have caH : h1.1[aH]? = some (.inr (.inr (2, [.inr none, .inl 0]))) := by rw [hh1, eaH]; exact push_at
  have gAH : gr (fun _ => False) 1 2 h h1 := by rw [hh1]; exact gr_push _
  have leH : h1.1.length = h.1.length + 1 := by rw [hh1]; simp
  have gaH : 23 ≤ aH := by rw [eaH]; exact hm.2.2.2.2.2.2.2.2
  have gbH : h.1.length ≤ aH := by rw [eaH]; exact G.1.1
  refine xx (xs_dup dm_Ma_hypothesesOfBoth_3) ?_
  refine xcI (as := []) (rest := [.inr (some aH)]) dm_Ma_hypothesesOfBoth_4 lc_Hy_init lm_Ma_45 li_Hy_init (nr rfl rfl) rfl rfl (nl rfl) (hy_init caH) ?_
  rintro _ h2 ⟨FH, gBH⟩
  show x_X _ 7 [some (.inr (some 0)), some (.inr (some a1)), some (.inr (some a0)), none] [.inr (some aH)] _ _
  obtain ⟨rH, erH⟩ : ∃ r, r = h1.1.length := ⟨_, rfl⟩
  rw [← erH] at FH
  have gCH : gr (fun _ => False) 2 8 h h2 := gr_tr gAH (P' := fun i => i = aH) gBH (fun i hi e => by have : i = aH := e; omega) (Nat.le_refl _) (Nat.le_refl _)
  have hm := cM_new hm gCH
  have gSH := gr_S gCH (fun i e => e.elim)
  have G := gr_tr G gSH (fun _ _ e => e) (Nat.le_refl _) (Nat.le_refl _)
  have c1 := ce_S c1_0 G (by omega)
  have f1 := hyF_S f1_0 G yb1 rb1
  have c0 := ce_S c0_0 G (by omega)
  have f0 := hyF_S f0_0 G yb0 rb0
  have m1 := hm.1
  refine xx (xs_astore_n dm_Ma_hypothesesOfBoth_7 (by decide)) ?_
  show x_X _ 8 [some (.inr (some 0)), some (.inr (some a1)), some (.inr (some a0)), some (.inr (some aH))] [] _ _
  refine xx (xs_aload_n dm_Ma_hypothesesOfBoth_8 rfl) ?_
  refine xx (xs_aload_n dm_Ma_hypothesesOfBoth_9 rfl) ?_
  refine xx (xs_getf dm_Ma_hypothesesOfBoth_10 lf_Ma_140 c1 rfl) ?_
  refine xcV (as := [.inr (some y1)]) (rest := []) dm_Ma_hypothesesOfBoth_13 lc_Hy_addAll lm_Ma_247 li_Hy_addAll (nr rfl rfl) rfl rfl FH.1 rfl (nl rfl) (hy_addAll FH f1 (by omega) (by omega) (by simp) (nn_g g1).2) ?_
  rintro _ h3 ⟨rfl, ⟨qH, F9⟩, g9⟩
  have G := gr_tr G g9 (fun i hi e => by exfalso; rcases e with e | e <;> omega) (Nat.le_refl _) (Nat.le_refl _)
  have hm := cM_gr hm0 G (cP_h hm.2.1 g9 (by omega) (by omega)) (fun _ e => e)
  clear g9
  have FH := F9
  clear F9
  have c1 := ce_S c1_0 G (by omega)
  have f1 := hyF_S f1_0 G yb1 rb1
  have c0 := ce_S c0_0 G (by omega)
  have f0 := hyF_S f0_0 G yb0 rb0
  have m1 := hm.1
  show x_X _ 16 [some (.inr (some 0)), some (.inr (some a1)), some (.inr (some a0)), some (.inr (some aH))] [] _ _
  refine xx (xs_aload_n dm_Ma_hypothesesOfBoth_16 rfl) ?_
  refine xx (xs_aload_n dm_Ma_hypothesesOfBoth_17 rfl) ?_
  refine xx (xs_getf dm_Ma_hypothesesOfBoth_18 lf_Ma_140 c0 rfl) ?_
  refine xcV (as := [.inr (some y0)]) (rest := []) dm_Ma_hypothesesOfBoth_21 lc_Hy_addAll lm_Ma_247 li_Hy_addAll (nr rfl rfl) rfl rfl FH.1 rfl (nl rfl) (hy_addAll FH f0 (by omega) (by omega) (hfc_nn (by simp) (nn_g g1).2) (nn_g g0).2) ?_
  rintro _ h4 ⟨rfl, ⟨qH, F9⟩, g9⟩
  have G := gr_tr G g9 (fun i hi e => by exfalso; rcases e with e | e <;> omega) (Nat.le_refl _) (Nat.le_refl _)
  have hm := cM_gr hm0 G (cP_h hm.2.1 g9 (by omega) (by omega)) (fun _ e => e)
  clear g9
  have FH := F9
  clear F9
  have c1 := ce_S c1_0 G (by omega)
  have f1 := hyF_S f1_0 G yb1 rb1
  have c0 := ce_S c0_0 G (by omega)
  have f0 := hyF_S f0_0 G yb0 rb0
  have m1 := hm.1
  show x_X _ 24 [some (.inr (some 0)), some (.inr (some a1)), some (.inr (some a0)), some (.inr (some aH))] [] _ _
  refine xx (xs_aload_n dm_Ma_hypothesesOfBoth_24 rfl) ?_
  exact ⟨_, _, xb_a dm_Ma_hypothesesOfBoth_25 rfl (Or.inl ⟨_, rfl⟩), aH, rfl, hyF_A FH (by omega) (by omega), hm, G⟩
