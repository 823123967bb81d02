/-! the end of a command -/
def eh (M : mS) (n : Nat) : Int × mS := if M.2.2.2.2.2 = 120 then (4, M) else (0, M.1.drop n, M.2.1, M.2.2.1, M.2.2.2.1, M.2.2.2.2.1, M.2.2.2.2.2 + 1)
theorem cK_drop {h h2 : xH} {P : Nat → Prop} {C S n : Nat} {xs : List oB} {q : List (Option Nat)} (hs : shF h2 6 7 12 (xs.reverse.length - n) q) (q2 : ∀ (i : Nat) (x : oB), xs.reverse[i]? = some x → ∃ b, q[i]? = some (some b) ∧ itA h b x) (hg : gr P C S h h2) (hP : ∀ i, 14 ≤ i → ¬ P i) : cK h2 (xs.drop n) := by
  refine ⟨q, ?_, fun i x hx => ?_⟩
  · rw [show (xs.drop n).reverse.length = xs.reverse.length - n by simp]
    exact hs
  · rw [List.reverse_drop] at hx
    have hi := (List.getElem?_eq_some_iff.mp hx).1
    rw [List.getElem?_take, if_pos (by rw [List.length_take] at hi; omega)] at hx
    obtain ⟨b, b1, b2⟩ := q2 i x hx
    exact ⟨b, b1, itA_gr b2 hg hP⟩
theorem cL_add {h h2 : xH} {P : Nat → Prop} {C S a ra N b : Nat} {xs : List oB} {x : oB} {q : List (Option Nat)} (hs : shF h2 a ra N (xs.length + 1) (q.set xs.length (some b))) (hq : xs.length < q.length) (q2 : ∀ (i : Nat) (x : oB), xs[i]? = some x → ∃ b, q[i]? = some (some b) ∧ itA h b x) (hx : itA h b x) (hg : gr P C S h h2) (hP : ∀ i, 14 ≤ i → ¬ P i) : cL h2 a ra N (xs ++ [x]) := by
  refine ⟨_, by rw [List.length_append]; exact hs, fun i y hy => ?_⟩
  by_cases hi : i < xs.length
  · rw [List.getElem?_append_left hi] at hy
    obtain ⟨c, c1, c2⟩ := q2 i y hy
    exact ⟨c, by rw [List.getElem?_set_ne (by omega)]; exact c1, itA_gr c2 hg hP⟩
  · have hl := (List.getElem?_eq_some_iff.mp hy).1
    rw [List.length_append] at hl
    have hl : i < xs.length + 1 := hl
    have e : i = xs.length := by omega
    subst e
    rw [List.getElem?_append_right (Nat.le_refl _)] at hy
    simp at hy
    subst hy
    exact ⟨b, by rw [List.getElem?_set_self hq], itA_gr hx hg hP⟩
set_option maxHeartbeats 4000000 in
set_option maxRecDepth 100000 in
theorem ma_fEH {h : xH} {M : mS} {n : Nat} {nn : Int} (hg : gM M) (hm : cM h M) (hnn : nn = n) (hn : n ≤ 12) : x_Mx mm_Ma_finishEmptyHanded [.inr (some 0), .inl nn] h (clP 0 0 h (eh M n)) := by
  refine xmx rfl (nl rfl) ?_
  have hm0 := hm
  have g10 := hg.2.2.2.2.2.2.2.2.2
  obtain ⟨m1, m2, m3, m4, m5, m6, m7, m8, m9⟩ := hm
  show x_X _ 0 [some (.inr (some 0)), some (.inl nn)] [] _ _
  refine xx (xs_aload_n dm_Ma_finishEmptyHanded_0 rfl) ?_
  refine xx (xs_getf dm_Ma_finishEmptyHanded_1 lf_Ma_54 m1 rfl) ?_
  refine xx (xs_bipush dm_Ma_finishEmptyHanded_4 (by decide)) ?_
  refine xx_icmp_lt (tgt := 11) dm_Ma_finishEmptyHanded_6 rfl (by unfold ir; omega) (by unfold ir; omega) (fun hc => ?_) (fun hc => ?_)
  · change x_X _ 11 _ _ _ _
    rw [show eh M n = _ from if_neg (by omega)]
    refine xx (xs_aload_n dm_Ma_finishEmptyHanded_11 rfl) ?_
    refine xx (xs_dup dm_Ma_finishEmptyHanded_12) ?_
    refine xx (xs_getf dm_Ma_finishEmptyHanded_13 lf_Ma_54 m1 rfl) ?_
    refine xx (xs_iconst dm_Ma_finishEmptyHanded_16) ?_
    refine xx (xs_iadd dm_Ma_finishEmptyHanded_17) ?_
    refine xx (xs_putf dm_Ma_finishEmptyHanded_18 lp_Ma_54 m1 (nl rfl) (x_ft_i _)) ?_
    obtain ⟨h1, hh1⟩ : ∃ hX : xH, hX = (h.1.set 0 (.inr (.inr (7, [.inr (some 1), .inr (some 6), .inr (some 8), .inr (some 10), .inr (some 12), .inr (some 13), .inr (some 14), .inl (M.2.2.2.2.1.length : Int), .inl ((M.2.2.2.2.2 : Int) + 1)]))), h.2) := ⟨_, rfl⟩
    show x_X _ 21 [some (.inr (some 0)), some (.inl nn)] [] (h.1.set 0 (.inr (.inr (7, [.inr (some 1), .inr (some 6), .inr (some 8), .inr (some 10), .inr (some 12), .inr (some 13), .inr (some 14), .inl (M.2.2.2.2.1.length : Int), .inl ((M.2.2.2.2.2 : Int) + 1)]))), h.2) _
    rw [← hh1]
    have m1_o := m1
    have m1 : h1.1[0]? = some (.inr (.inr (7, [.inr (some 1), .inr (some 6), .inr (some 8), .inr (some 10), .inr (some 12), .inr (some 13), .inr (some 14), .inl (M.2.2.2.2.1.length : Int), .inl ((M.2.2.2.2.2 : Int) + 1)]))) := by rw [hh1]; exact set_at m1_o
    have g1 : gr (fun i => i = 0) 0 0 h h1 := by rw [hh1]; exact gr_set
    have m3 := cL_gr m3 g1 (by omega) (by omega) (fun i hi => by omega)
    obtain ⟨q, q1, q2⟩ := m3
    refine xx (xs_aload_n dm_Ma_finishEmptyHanded_21 rfl) ?_
    refine xx (xs_getf dm_Ma_finishEmptyHanded_22 lf_Ma_21 m1 rfl) ?_
    refine xx (xs_iload_n dm_Ma_finishEmptyHanded_25 rfl) ?_
    refine xcV (as := [.inl nn]) (rest := []) dm_Ma_finishEmptyHanded_26 lc_Sh_drop lm_Ma_259 li_Sh_drop (nr rfl rfl) rfl rfl q1.1 rfl (nl rfl) (sh_drop (m := nn) q1 (by omega)) ?_
    rintro _ h2 ⟨rfl, s2, g2⟩
    show x_X _ 29 [some (.inr (some 0)), some (.inl nn)] [] _ _
    rw [show nn.toNat = n by omega] at s2
    have g : gr (fun i => i = 0 ∨ i = 6) 0 0 h h2 := gr_tr (gr_w g1 (fun i _ e => Or.inl e) (Nat.le_refl _) (Nat.le_refl _)) g2 (fun i _ e => Or.inr e) (Nat.le_refl _) (Nat.le_refl _)
    refine xx (xs_iconst dm_Ma_finishEmptyHanded_29) ?_
    exact ⟨_, _, xb_i dm_Ma_finishEmptyHanded_30 rfl, rfl, ⟨g2.2 0 _ (by omega) m1, cP_gr m2 g (fun i hi => by omega), cK_drop s2 q2 g2 (fun i hi => by omega), cDi_gr m4 g (by omega) (fun i hi => by omega), cL_gr m5 g (by omega) (by omega) (fun i hi => by omega), cL_gr m6 g (by omega) (by omega) (fun i hi => by omega), cC_gr m7 g (by omega) (fun i hi => by omega), hyA_gr m8 g (fun i hi => by omega), Nat.le_trans m9 g.1.1⟩, gr_w g (fun i _ e => by show i < 14; omega) (Nat.le_refl _) (Nat.le_refl _)⟩
  · change x_X _ 9 _ _ _ _
    refine xx (xs_iconst dm_Ma_finishEmptyHanded_9) ?_
    rw [show eh M n = (4, M) from if_pos (by omega)]
    exact ⟨_, _, xb_i dm_Ma_finishEmptyHanded_10 rfl, rfl, hm0, gr_rf _ _⟩
set_option maxHeartbeats 4000000 in
set_option maxRecDepth 100000 in
theorem ma_finish {h : xH} {M : mS} {n a : Nat} {nn : Int} {x : oB} (hg : gM M) (hm : cM h M) (hx : itA h a x) (hk : x.1 = 0 ∨ x.1 = 1 ∨ x.1 = 2) (hnn : nn = n) (hn : n ≤ 12) : x_Mx mm_Ma_finish [.inr (some 0), .inl nn, .inr (some a)] h (clP 0 0 h (fin9 M n x)) := by
  refine xmx rfl (nl rfl) ?_
  have hx0 := hx
  have g6 := hg.2.2.2.2.2.1
  obtain ⟨a16, m, y, ac, wm, hy⟩ := hx
  have m1 := hm.1
  have m3 := hm.2.2.1
  by_cases hs : smO x
  · show x_X _ 0 [some (.inr (some 0)), some (.inl nn), some (.inr (some a)), none] [] _ _
    refine xx (xs_aload_n dm_Ma_finish_0 rfl) ?_
    refine xcV (as := []) (rest := []) dm_Ma_finish_1 lc_It_isSmallEnough lm_Ma_256 li_It_isSmallEnough (nr rfl rfl) rfl rfl ac rfl (nl rfl) (it_small (R := 1) ac hk wm hy (fun _ => rfl) (fun e => absurd hs e)) ?_
    rintro _ hx9 ⟨rfl, hhx9⟩
    have hhx9 := hhx9.symm
    subst hhx9
    show x_X _ 4 [some (.inr (some 0)), some (.inl nn), some (.inr (some a)), none] [.inl 1] _ _
    refine xx (xs_if_eq_f (tgt := 21) dm_Ma_finish_4 rfl (by unfold ir; omega) (by decide)) ?_
    obtain ⟨q, q1, q2⟩ := m3
    have k1 := q1.1
    refine xx (xs_aload_n dm_Ma_finish_7 rfl) ?_
    refine xx (xs_getf dm_Ma_finish_8 lf_Ma_21 m1 rfl) ?_
    refine xx (xs_getf dm_Ma_finish_11 lf_Ma_200 k1 rfl) ?_
    refine xx (xs_iload_n dm_Ma_finish_14 rfl) ?_
    refine xx (xs_isub dm_Ma_finish_15) ?_
    refine xx (xs_bipush dm_Ma_finish_16 (by decide)) ?_
    refine xx_icmp_lt (tgt := 23) dm_Ma_finish_18 rfl (by unfold ir; simp; omega) (by unfold ir; omega) (fun hc => ?_) (fun hc => ?_)
    · change x_X _ 23 _ _ _ _
      simp at hc
      rw [show fin9 M n x = _ from ifc_t ⟨hs, by omega⟩ _ _]
      refine xx (xs_aload_n dm_Ma_finish_23 rfl) ?_
      refine xx (xs_iload_n dm_Ma_finish_24 rfl) ?_
      refine xcV (as := [.inl nn]) (rest := []) dm_Ma_finish_25 lc_Ma_finishEmptyHanded lm_Ma_189 li_Ma_finishEmptyHanded (nr rfl rfl) rfl rfl m1 rfl (nl rfl) (ma_fEH hg hm hnn hn) ?_
      rintro _ h1 ⟨rfl, hm1, g1⟩
      show x_X _ 28 [some (.inr (some 0)), some (.inl nn), some (.inr (some a)), none] [.inl (eh M n).1] _ _
      by_cases h120 : M.2.2.2.2.2 = 120
      · rw [show eh M n = (4, M) from if_pos h120] at hm1 ⊢
        rw [show fi M n x false = (4, M) from if_pos (Or.inr h120)]
        show x_X _ 28 [some (.inr (some 0)), some (.inl nn), some (.inr (some a)), none] [.inl 4] _ _
        refine xx (xs_istore_n dm_Ma_finish_28 (by decide)) ?_
        show x_X _ 29 [some (.inr (some 0)), some (.inl nn), some (.inr (some a)), some (.inl 4)] [] _ _
        refine xx (xs_iload_n dm_Ma_finish_29 rfl) ?_
        refine xx (xs_if_ne_t (tgt := 41) dm_Ma_finish_30 rfl (by unfold ir; omega) (by decide)) ?_
        refine xx (xs_iload_n dm_Ma_finish_41 rfl) ?_
        exact ⟨_, _, xb_i dm_Ma_finish_42 rfl, rfl, hm1, g1⟩
      · rw [show eh M n = (0, M.1.drop n, M.2.1, M.2.2.1, M.2.2.2.1, M.2.2.2.2.1, M.2.2.2.2.2 + 1) from if_neg h120] at hm1 ⊢
        rw [show fi M n x false = (0, pu M n x) from if_neg (fun e => by rcases e with e | e; cases e; exact h120 e)]
        show x_X _ 28 [some (.inr (some 0)), some (.inl nn), some (.inr (some a)), none] [.inl 0] _ _
        refine xx (xs_istore_n dm_Ma_finish_28 (by decide)) ?_
        show x_X _ 29 [some (.inr (some 0)), some (.inl nn), some (.inr (some a)), some (.inl 0)] [] _ _
        refine xx (xs_iload_n dm_Ma_finish_29 rfl) ?_
        refine xx (xs_if_ne_f (tgt := 41) dm_Ma_finish_30 rfl (by unfold ir; omega) (by decide)) ?_
        obtain ⟨m1, m2, m3, m4, m5, m6, m7, m8, m9⟩ := hm1
        obtain ⟨q, q1, q2⟩ := m3
        have hx1 := itA_A hx0 g1
        have ac := ce_A ac g1 (by omega)
        have hlen : (M.1.drop n).reverse.length < 12 := by simp; omega
        refine xx (xs_aload_n dm_Ma_finish_33 rfl) ?_
        refine xx (xs_getf dm_Ma_finish_34 lf_Ma_21 m1 rfl) ?_
        refine xx (xs_aload_n dm_Ma_finish_37 rfl) ?_
        refine xcV (as := [.inr (some a)]) (rest := []) dm_Ma_finish_38 lc_Sh_add lm_Ma_197 li_Sh_add (nr rfl rfl) rfl rfl q1.1 rfl (nl rfl) (sh_add q1 ac hlen) ?_
        rintro _ h2 ⟨rfl, s2, g2⟩
        show x_X _ 41 [some (.inr (some 0)), some (.inl nn), some (.inr (some a)), some (.inl 0)] [] _ _
        refine xx (xs_iload_n dm_Ma_finish_41 rfl) ?_
        have hk9 : cK h2 (x :: M.1.drop n) := by
          have := cL_add s2 (by rw [q1.2.2.1]; exact hlen) q2 hx1 g2 (fun i hi => by omega)
          unfold cK
          rw [List.reverse_cons]
          exact this
        exact ⟨_, _, xb_i dm_Ma_finish_42 rfl, rfl, ⟨g2.2 0 _ (by omega) m1, cP_gr m2 g2 (fun i hi => by omega), hk9, cDi_gr m4 g2 (by omega) (fun i hi => by omega), cL_gr m5 g2 (by omega) (by omega) (fun i hi => by omega), cL_gr m6 g2 (by omega) (by omega) (fun i hi => by omega), cC_gr m7 g2 (by omega) (fun i hi => by omega), hyA_gr m8 g2 (fun i hi => by omega), Nat.le_trans m9 g2.1.1⟩, gr_tr g1 g2 (fun i _ e => by show i < 14; omega) (Nat.le_refl _) (Nat.le_refl _)⟩
    · change x_X _ 21 _ _ _ _
      refine xx (xs_iconst dm_Ma_finish_21) ?_
      rw [show fin9 M n x = (4, M) from ifc_f (fun e => by have := e.2; simp at hc; omega) _ _]
      exact ⟨_, _, xb_i dm_Ma_finish_22 rfl, rfl, hm, gr_rf _ _⟩
  · rw [show fin9 M n x = (4, M) from ifc_f (fun e => hs e.1) _ _]
    show x_X _ 0 [some (.inr (some 0)), some (.inl nn), some (.inr (some a)), none] [] _ _
    refine xx (xs_aload_n dm_Ma_finish_0 rfl) ?_
    refine xcV (as := []) (rest := []) dm_Ma_finish_1 lc_It_isSmallEnough lm_Ma_256 li_It_isSmallEnough (nr rfl rfl) rfl rfl ac rfl (nl rfl) (it_small (R := 0) ac hk wm hy (fun e => absurd e hs) (fun _ => rfl)) ?_
    rintro _ hx9 ⟨rfl, hhx9⟩
    have hhx9 := hhx9.symm
    subst hhx9
    show x_X _ 4 [some (.inr (some 0)), some (.inl nn), some (.inr (some a)), none] [.inl 0] _ _
    refine xx (xs_if_eq_t (tgt := 21) dm_Ma_finish_4 rfl (by unfold ir; omega) rfl) ?_
    refine xx (xs_iconst dm_Ma_finish_21) ?_
    exact ⟨_, _, xb_i dm_Ma_finish_22 rfl, rfl, hm, gr_rf _ _⟩
set_option maxHeartbeats 4000000 in
set_option maxRecDepth 100000 in
theorem ma_fTy {h : xH} {M : mS} {n m : Nat} {nn : Int} {l : List Int} (hg : gM M) (hm : cM h M) (hr : rwA h m l) (hnn : nn = n) (hn : n ≤ 12) : x_Mx mm_Ma_finishType [.inr (some 0), .inl nn, .inr (some m)] h (clP 1 3 h (fin9 M n (0, l, []))) := by
  refine xmx rfl (nl rfl) ?_
  have m1 := hm.1
  have m8 := hm.2.2.2.2.2.2.2.1
  have m9 := hm.2.2.2.2.2.2.2.2
  show x_X _ 0 [some (.inr (some 0)), some (.inl nn), some (.inr (some m))] [] _ _
  refine xx (xs_aload_n dm_Ma_finishType_0 rfl) ?_
  refine xx (xs_iload_n dm_Ma_finishType_1 rfl) ?_
  refine xx (xs_new dm_Ma_finishType_2 ln_Ma_31) ?_
  obtain ⟨h1, hh1⟩ : ∃ hX : xH, hX = (h.1 ++ [.inr (.inr (3, [.inl 0, .inr none, .inr none]))], h.2 + 3) := ⟨_, rfl⟩
  show x_X _ 5 [some (.inr (some 0)), some (.inl nn), some (.inr (some m))] [.inr (some h.1.length), .inl nn, .inr (some 0)] (h.1 ++ [.inr (.inr (3, [.inl 0, .inr none, .inr none]))], h.2 + 3) _
  rw [← hh1]
  have c1 : h1.1[h.1.length]? = some (.inr (.inr (3, [.inl 0, .inr none, .inr none]))) := by rw [hh1]; exact push_at
  have gA : gr (fun _ => False) 1 3 h h1 := by rw [hh1]; exact gr_push _
  have m1 := gA.2 0 _ (fun e => e) m1
  refine xx (xs_dup dm_Ma_finishType_5) ?_
  refine xx (xs_iconst dm_Ma_finishType_6) ?_
  refine xx (xs_aload_n dm_Ma_finishType_7 rfl) ?_
  refine xx (xs_aload_n dm_Ma_finishType_8 rfl) ?_
  refine xx (xs_getf dm_Ma_finishType_9 lf_Ma_46 m1 rfl) ?_
  refine xcI (as := [.inl 0, .inr (some m), .inr (some 14)]) (rest := [.inr (some h.1.length), .inl nn, .inr (some 0)]) dm_Ma_finishType_12 lc_It_init lm_Ma_226 li_It_init (nr rfl rfl) rfl rfl (nl rfl) (it_init (k := 0) (m := m) (y := 14) c1 |> fun hh => x_Mq hh (fun r hf e => ⟨e.1, e⟩)) ?_
  rintro _ h2 ⟨-, hh2⟩
  show x_X _ 15 [some (.inr (some 0)), some (.inl nn), some (.inr (some m))] [.inr (some h.1.length), .inl nn, .inr (some 0)] _ _
  have gB : gr (fun i => i = h.1.length) 0 0 h1 h2 := by rw [hh2]; exact gr_set
  have gC : gr (fun _ => False) 1 3 h h2 := gr_tr gA (P' := fun i => i = h.1.length) gB (fun i hi e => by have : i = h.1.length := e; omega) (Nat.le_refl _) (Nat.le_refl _)
  have hm2 := cM_new hm gC
  have m1 := hm2.1
  have cI : h2.1[h.1.length]? = some (.inr (.inr (3, [.inl 0, .inr (some m), .inr (some 14)]))) := by rw [hh2]; exact set_at c1
  have it : itA h2 h.1.length (0, l, []) := ⟨m9, m, 14, cI, rwA_lo hr gC (fun _ _ e => e), hyA_gr m8 gC (fun _ _ e => e)⟩
  refine xcV (as := [.inl nn, .inr (some h.1.length)]) (rest := []) dm_Ma_finishType_15 lc_Ma_finish lm_Ma_182 li_Ma_finish (nr rfl rfl) rfl rfl m1 rfl (nl rfl) (ma_finish hg hm2 it (by simp) hnn hn) ?_
  rintro _ h3 ⟨rfl, hm3, g3⟩
  show x_X _ 18 [some (.inr (some 0)), some (.inl nn), some (.inr (some m))] [.inl (fin9 M n (0, l, [])).1] _ _
  exact ⟨_, _, xb_i dm_Ma_finishType_18 rfl, rfl, hm3, gr_tr (gr_A gC (fun _ e => e.elim)) g3 (fun _ _ e => e) (Nat.le_refl _) (Nat.le_refl _)⟩
set_option maxHeartbeats 4000000 in
set_option maxRecDepth 100000 in
theorem ma_fTm {h : xH} {M : mS} {n m : Nat} {nn : Int} {l : List Int} (hg : gM M) (hm : cM h M) (hr : rwA h m l) (hnn : nn = n) (hn : n ≤ 12) : x_Mx mm_Ma_finishTerm [.inr (some 0), .inl nn, .inr (some m)] h (clP 1 3 h (fin9 M n (1, l, []))) := by
  refine xmx rfl (nl rfl) ?_
  have m1 := hm.1
  have m8 := hm.2.2.2.2.2.2.2.1
  have m9 := hm.2.2.2.2.2.2.2.2
  show x_X _ 0 [some (.inr (some 0)), some (.inl nn), some (.inr (some m))] [] _ _
  refine xx (xs_aload_n dm_Ma_finishTerm_0 rfl) ?_
  refine xx (xs_iload_n dm_Ma_finishTerm_1 rfl) ?_
  refine xx (xs_new dm_Ma_finishTerm_2 ln_Ma_31) ?_
  obtain ⟨h1, hh1⟩ : ∃ hX : xH, hX = (h.1 ++ [.inr (.inr (3, [.inl 0, .inr none, .inr none]))], h.2 + 3) := ⟨_, rfl⟩
  show x_X _ 5 [some (.inr (some 0)), some (.inl nn), some (.inr (some m))] [.inr (some h.1.length), .inl nn, .inr (some 0)] (h.1 ++ [.inr (.inr (3, [.inl 0, .inr none, .inr none]))], h.2 + 3) _
  rw [← hh1]
  have c1 : h1.1[h.1.length]? = some (.inr (.inr (3, [.inl 0, .inr none, .inr none]))) := by rw [hh1]; exact push_at
  have gA : gr (fun _ => False) 1 3 h h1 := by rw [hh1]; exact gr_push _
  have m1 := gA.2 0 _ (fun e => e) m1
  refine xx (xs_dup dm_Ma_finishTerm_5) ?_
  refine xx (xs_iconst dm_Ma_finishTerm_6) ?_
  refine xx (xs_aload_n dm_Ma_finishTerm_7 rfl) ?_
  refine xx (xs_aload_n dm_Ma_finishTerm_8 rfl) ?_
  refine xx (xs_getf dm_Ma_finishTerm_9 lf_Ma_46 m1 rfl) ?_
  refine xcI (as := [.inl 1, .inr (some m), .inr (some 14)]) (rest := [.inr (some h.1.length), .inl nn, .inr (some 0)]) dm_Ma_finishTerm_12 lc_It_init lm_Ma_226 li_It_init (nr rfl rfl) rfl rfl (nl rfl) (it_init (k := 1) (m := m) (y := 14) c1 |> fun hh => x_Mq hh (fun r hf e => ⟨e.1, e⟩)) ?_
  rintro _ h2 ⟨-, hh2⟩
  show x_X _ 15 [some (.inr (some 0)), some (.inl nn), some (.inr (some m))] [.inr (some h.1.length), .inl nn, .inr (some 0)] _ _
  have gB : gr (fun i => i = h.1.length) 0 0 h1 h2 := by rw [hh2]; exact gr_set
  have gC : gr (fun _ => False) 1 3 h h2 := gr_tr gA (P' := fun i => i = h.1.length) gB (fun i hi e => by have : i = h.1.length := e; omega) (Nat.le_refl _) (Nat.le_refl _)
  have hm2 := cM_new hm gC
  have m1 := hm2.1
  have cI : h2.1[h.1.length]? = some (.inr (.inr (3, [.inl 1, .inr (some m), .inr (some 14)]))) := by rw [hh2]; exact set_at c1
  have it : itA h2 h.1.length (1, l, []) := ⟨m9, m, 14, cI, rwA_lo hr gC (fun _ _ e => e), hyA_gr m8 gC (fun _ _ e => e)⟩
  refine xcV (as := [.inl nn, .inr (some h.1.length)]) (rest := []) dm_Ma_finishTerm_15 lc_Ma_finish lm_Ma_182 li_Ma_finish (nr rfl rfl) rfl rfl m1 rfl (nl rfl) (ma_finish hg hm2 it (by simp) hnn hn) ?_
  rintro _ h3 ⟨rfl, hm3, g3⟩
  show x_X _ 18 [some (.inr (some 0)), some (.inl nn), some (.inr (some m))] [.inl (fin9 M n (1, l, [])).1] _ _
  exact ⟨_, _, xb_i dm_Ma_finishTerm_18 rfl, rfl, hm3, gr_tr (gr_A gC (fun _ e => e.elim)) g3 (fun _ _ e => e) (Nat.le_refl _) (Nat.le_refl _)⟩
set_option maxHeartbeats 4000000 in
set_option maxRecDepth 100000 in
theorem ma_fTh {h : xH} {M : mS} {n m y : Nat} {nn : Int} {l : List Int} {hs : List (List Int)} (hg : gM M) (hm : cM h M) (hy : hyA h y hs) (hr : rwA h m l) (hnn : nn = n) (hn : n ≤ 12) : x_Mx mm_Ma_finishTheorem [.inr (some 0), .inl nn, .inr (some y), .inr (some m)] h (clP 1 3 h (fin9 M n (2, l, hs))) := by
  refine xmx rfl (nl rfl) ?_
  have m1 := hm.1
  have m9 := hm.2.2.2.2.2.2.2.2
  show x_X _ 0 [some (.inr (some 0)), some (.inl nn), some (.inr (some y)), some (.inr (some m))] [] _ _
  refine xx (xs_aload_n dm_Ma_finishTheorem_0 rfl) ?_
  refine xx (xs_iload_n dm_Ma_finishTheorem_1 rfl) ?_
  refine xx (xs_new dm_Ma_finishTheorem_2 ln_Ma_31) ?_
  obtain ⟨h1, hh1⟩ : ∃ hX : xH, hX = (h.1 ++ [.inr (.inr (3, [.inl 0, .inr none, .inr none]))], h.2 + 3) := ⟨_, rfl⟩
  show x_X _ 5 [some (.inr (some 0)), some (.inl nn), some (.inr (some y)), some (.inr (some m))] [.inr (some h.1.length), .inl nn, .inr (some 0)] (h.1 ++ [.inr (.inr (3, [.inl 0, .inr none, .inr none]))], h.2 + 3) _
  rw [← hh1]
  have c1 : h1.1[h.1.length]? = some (.inr (.inr (3, [.inl 0, .inr none, .inr none]))) := by rw [hh1]; exact push_at
  have gA : gr (fun _ => False) 1 3 h h1 := by rw [hh1]; exact gr_push _
  have m1 := gA.2 0 _ (fun e => e) m1
  refine xx (xs_dup dm_Ma_finishTheorem_5) ?_
  refine xx (xs_iconst dm_Ma_finishTheorem_6) ?_
  refine xx (xs_aload_n dm_Ma_finishTheorem_7 rfl) ?_
  refine xx (xs_aload_n dm_Ma_finishTheorem_8 rfl) ?_
  refine xcI (as := [.inl 2, .inr (some m), .inr (some y)]) (rest := [.inr (some h.1.length), .inl nn, .inr (some 0)]) dm_Ma_finishTheorem_9 lc_It_init lm_Ma_226 li_It_init (nr rfl rfl) rfl rfl (nl rfl) (it_init (k := 2) (m := m) (y := y) c1 |> fun hh => x_Mq hh (fun r hf e => ⟨e.1, e⟩)) ?_
  rintro _ h2 ⟨-, hh2⟩
  show x_X _ 12 [some (.inr (some 0)), some (.inl nn), some (.inr (some y)), some (.inr (some m))] [.inr (some h.1.length), .inl nn, .inr (some 0)] _ _
  have gB : gr (fun i => i = h.1.length) 0 0 h1 h2 := by rw [hh2]; exact gr_set
  have gC : gr (fun _ => False) 1 3 h h2 := gr_tr gA (P' := fun i => i = h.1.length) gB (fun i hi e => by have : i = h.1.length := e; omega) (Nat.le_refl _) (Nat.le_refl _)
  have hm2 := cM_new hm gC
  have m1 := hm2.1
  have cI : h2.1[h.1.length]? = some (.inr (.inr (3, [.inl 2, .inr (some m), .inr (some y)]))) := by rw [hh2]; exact set_at c1
  have it : itA h2 h.1.length (2, l, hs) := ⟨m9, m, y, cI, rwA_lo hr gC (fun _ _ e => e), hyA_gr hy gC (fun _ _ e => e)⟩
  refine xcV (as := [.inl nn, .inr (some h.1.length)]) (rest := []) dm_Ma_finishTheorem_12 lc_Ma_finish lm_Ma_182 li_Ma_finish (nr rfl rfl) rfl rfl m1 rfl (nl rfl) (ma_finish hg hm2 it (by simp) hnn hn) ?_
  rintro _ h3 ⟨rfl, hm3, g3⟩
  show x_X _ 15 [some (.inr (some 0)), some (.inl nn), some (.inr (some y)), some (.inr (some m))] [.inl (fin9 M n (2, l, hs)).1] _ _
  exact ⟨_, _, xb_i dm_Ma_finishTheorem_15 rfl, rfl, hm3, gr_tr (gr_A gC (fun _ e => e.elim)) g3 (fun _ _ e => e) (Nat.le_refl _) (Nat.le_refl _)⟩
