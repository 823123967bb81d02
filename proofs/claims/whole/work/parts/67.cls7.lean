/-! the scribe replaces -/
abbrev pS : Nat → Prop := fun i => 1 ≤ i ∧ i ≤ 5
theorem pP_S {i : Nat} (h : pP i) : pS i := by rcases h with h | h <;> exact ⟨by omega, by omega⟩
theorem rwA_s {C S : Nat} {h hf : xH} {a : Nat} {l : List Int} (hr : rwA h a l) (hg : gr pS C S h hf) : rwA hf a l := rwA_lo hr hg (fun i h e => by have := e.2; omega)
theorem gr_s {C S C' S' C2 S2 : Nat} {h h1 h2 : xH} (a : gr pS C S h h1) (b : gr pS C' S' h1 h2) (hC : C + C' ≤ C2) (hS : S + S' ≤ S2) : gr pS C2 S2 h h2 := gr_tr a b (fun _ _ e => e) hC hS
theorem gr_ps {C S : Nat} {h h1 : xH} (a : gr pP C S h h1) : gr pS C S h h1 := gr_w a (fun _ _ e => pP_S e) (Nat.le_refl _) (Nat.le_refl _)
theorem gr_ds {C S : Nat} {h h1 : xH} (a : gr (fun i => i = 3 ∨ i = 4) C S h h1) : gr pS C S h h1 := gr_w a (fun _ _ e => by rcases e with e | e <;> exact ⟨by omega, by omega⟩) (Nat.le_refl _) (Nat.le_refl _)
set_option maxHeartbeats 4000000 in
set_option maxRecDepth 100000 in
theorem sc_replaceVariable_l {h0 : xH} {a b c : Nat} {l v u : List Int} (h16 : 23 ≤ h0.1.length) (hv9 : ∀ x ∈ v, x ≠ -1) : ∀ (N k t : Nat) (kk tt : Int) (h : xH) (w : List Int), l.length - k < N → k ≤ l.length → kk = k → tt = t → t ≤ 1000 → scP h w → rwA h a l → rwA h b v → rwA h c u → gr pP 0 0 h0 h → x_X mm_Sc_replaceVariable 6 [some (.inr (some 1)), some (.inr (some a)), some (.inr (some b)), some (.inr (some c)), some (.inl tt), some (.inl kk)] [] h (fun r hf => nrow pP 2 84 h0 ((w ++ rplC v u (l.drop k) (t - k)).take 81) r hf ∧ scP hf []) := by
  intro N
  induction N with
  | zero => intro k t kk tt h w hN; omega
  | succ N ih =>
    intro k t kk tt h w hN hk hkk htt ht hp hr1 hr2 hr3 hg
    have l1 := rwA_len hr1
    have l2 := rwA_len hr2
    have hr1' := hr1
    have hr2' := hr2
    obtain ⟨ra1, ri1, s1, f1, A1, rs1, rc1, rd1, rl1, rf1, rg1⟩ := hr1
    obtain ⟨ra2, ri2, s2, f2, A2, rs2, rc2, rd2, rl2, rf2, rg2⟩ := hr2
    by_cases hkn : k = l.length
    · refine xx (xs_iload dm_Sc_replaceVariable_6 rfl) ?_
      refine xx (xs_aload_n dm_Sc_replaceVariable_8 rfl) ?_
      refine xx (xs_getf dm_Sc_replaceVariable_9 lf_Sc_47 rc1 rfl) ?_
      refine xx (xs_icmp_ge_t (tgt := 65) dm_Sc_replaceVariable_12 rfl (by unfold ir; omega) (by unfold ir; omega) (by omega)) ?_
      refine xx (xs_aload_n dm_Sc_replaceVariable_65 rfl) ?_
      refine xcV (as := []) (rest := []) dm_Sc_replaceVariable_66 lc_Sc_finishedRow lm_Sc_32 li_Sc_finishedRow (nr rfl rfl) rfl rfl (scP_c hp).choose_spec rfl (nl rfl) (sc_finishedRow hp (gr_len hg h16)) ?_
      rintro _ h9 ⟨⟨b9, rfl, g9, w9⟩, p9⟩
      show x_X _ 69 [some (.inr (some 1)), some (.inr (some a)), some (.inr (some b)), some (.inr (some c)), some (.inl tt), some (.inl kk)] [.inr (some b9)] _ _
      exact ⟨_, _, xb_a dm_Sc_replaceVariable_69 rfl (Or.inl ⟨_, rfl⟩), ⟨b9, rfl, gr_p hg g9 (by omega) (by omega), by rw [hkn, List.drop_length]; simpa [rplC] using w9⟩, p9⟩
    · obtain ⟨x, hx⟩ : ∃ x, l[k]? = some x := ⟨_, List.getElem?_eq_getElem (by omega)⟩
      have hdl := drop_at hx
      have e1 : atL l kk = x := by rw [hkk]; exact atL_n hx
      have ix : ir (atL l kk) := atL_ir ri1 _
      refine xx (xs_iload dm_Sc_replaceVariable_6 rfl) ?_
      refine xx (xs_aload_n dm_Sc_replaceVariable_8 rfl) ?_
      refine xx (xs_getf dm_Sc_replaceVariable_9 lf_Sc_47 rc1 rfl) ?_
      refine xx (xs_icmp_ge_f (tgt := 65) dm_Sc_replaceVariable_12 rfl (by unfold ir; omega) (by unfold ir; omega) (by omega)) ?_
      refine xx (xs_aload_n dm_Sc_replaceVariable_15 rfl) ?_
      refine xx (xs_iload dm_Sc_replaceVariable_16 rfl) ?_
      refine xx (xs_aload_n dm_Sc_replaceVariable_18 rfl) ?_
      refine xcV (as := [.inl kk, .inr (some b)]) (rest := []) dm_Sc_replaceVariable_19 lc_Ro_holdsAt lm_Sc_58 li_Ro_holdsAt (nr rfl rfl) rfl rfl rc1 rfl (nl rfl) (ro_holdsAt hr1' hr2' hv9 (by omega) (by omega)) ?_
      rintro _ hx9 ⟨rfl, hhx9⟩
      have hhx9 := hhx9.symm
      subst hhx9
      show x_X _ 22 [some (.inr (some 1)), some (.inr (some a)), some (.inr (some b)), some (.inr (some c)), some (.inl tt), some (.inl kk)] [.inl (if v.isPrefixOf (l.drop kk.toNat) = true then 1 else 0)] _ _
      rw [show kk.toNat = k by omega]
      by_cases hpf : v.isPrefixOf (l.drop k) = true
      · rw [if_pos hpf]
        refine xx (xs_if_eq_f (tgt := 42) dm_Sc_replaceVariable_22 rfl (by unfold ir; omega) (by decide)) ?_
        refine xx (xs_aload_n dm_Sc_replaceVariable_25 rfl) ?_
        refine xx (xs_aload_n dm_Sc_replaceVariable_26 rfl) ?_
        refine xcV (as := [.inr (some c)]) (rest := []) dm_Sc_replaceVariable_27 lc_Sc_putRow lm_Sc_36 li_Sc_putRow (nr rfl rfl) rfl rfl (scP_c hp).choose_spec rfl (nl rfl) (sc_putRow hp hr3) ?_
        rintro _ h2 ⟨rfl, hp2, g2⟩
        show x_X _ 30 [some (.inr (some 1)), some (.inr (some a)), some (.inr (some b)), some (.inr (some c)), some (.inl tt), some (.inl kk)] [] _ _
        have rc2 := g2.2 b _ (pP_hi ra2) rc2
        refine xx (xs_iload dm_Sc_replaceVariable_30 rfl) ?_
        refine xx (xs_aload_n dm_Sc_replaceVariable_32 rfl) ?_
        refine xx (xs_getf dm_Sc_replaceVariable_33 lf_Sc_47 rc2 rfl) ?_
        refine xx (xs_iadd dm_Sc_replaceVariable_36) ?_
        refine xx (xs_istore dm_Sc_replaceVariable_37 (by decide)) ?_
        show x_X _ 39 [some (.inr (some 1)), some (.inr (some a)), some (.inr (some b)), some (.inr (some c)), some (.inl (kk + (v.length : Int))), some (.inl kk)] [] _ _
        refine xx (xs_goto (tgt := 59) dm_Sc_replaceVariable_39 rfl) ?_
        refine xx (xs_iinc dm_Sc_replaceVariable_59 rfl (by decide)) ?_
        show x_X _ 62 [some (.inr (some 1)), some (.inr (some a)), some (.inr (some b)), some (.inr (some c)), some (.inl (kk + (v.length : Int))), some (.inl (kk + 1))] [] _ _
        refine xx (xs_goto (tgt := 6) dm_Sc_replaceVariable_62 rfl) ?_
        refine xxq (ih (k + 1) (k + v.length) _ _ h2 _ (by omega) (by omega) (by omega) (by omega) (by omega) hp2 (rwA_p hr1' g2) (rwA_p hr2' g2) (rwA_p hr3 g2) (gr_p hg g2 (Nat.le_refl _) (Nat.le_refl _))) ?_
        rintro r hf ⟨q1, q2⟩
        refine ⟨?_, q2⟩
        rw [hdl] at hpf ⊢
        rw [rplC, if_pos hpf]
        rw [show k + v.length - (k + 1) = v.length - 1 by omega, List.append_assoc] at q1
        exact q1
      · rw [if_neg hpf]
        refine xx (xs_if_eq_t (tgt := 42) dm_Sc_replaceVariable_22 rfl (by unfold ir; omega) (by decide)) ?_
        refine xx (xs_iload dm_Sc_replaceVariable_42 rfl) ?_
        refine xx (xs_iload dm_Sc_replaceVariable_44 rfl) ?_
        refine xx_icmp_lt (tgt := 59) dm_Sc_replaceVariable_46 rfl (by unfold ir; omega) (by unfold ir; omega) (fun hc => ?_) (fun hc => ?_)
        · change x_X _ 59 _ _ _ _
          refine xx (xs_iinc dm_Sc_replaceVariable_59 rfl (by decide)) ?_
          show x_X _ 62 [some (.inr (some 1)), some (.inr (some a)), some (.inr (some b)), some (.inr (some c)), some (.inl tt), some (.inl (kk + 1))] [] _ _
          refine xx (xs_goto (tgt := 6) dm_Sc_replaceVariable_62 rfl) ?_
          refine xxq (ih (k + 1) t _ _ h _ (by omega) (by omega) (by omega) htt ht hp hr1' hr2' hr3 hg) ?_
          rintro r hf ⟨q1, q2⟩
          refine ⟨?_, q2⟩
          rw [hdl] at hpf ⊢
          rw [rplC, if_neg hpf, if_neg (by omega), show t - k - 1 = t - (k + 1) by omega]
          exact q1
        · change x_X _ 49 _ _ _ _
          refine xx (xs_aload_n dm_Sc_replaceVariable_49 rfl) ?_
          refine xx (xs_aload_n dm_Sc_replaceVariable_50 rfl) ?_
          refine xx (xs_iload dm_Sc_replaceVariable_51 rfl) ?_
          refine xcV (as := [.inl kk]) (rest := [.inr (some 1)]) dm_Sc_replaceVariable_53 lc_Ro_at lm_Sc_51 li_Ro_at (nr rfl rfl) rfl rfl rc1 rfl (nl rfl) (ro_at hr1' (by unfold ir; omega)) ?_
          rintro _ hx9 ⟨rfl, hhx9⟩
          have hhx9 := hhx9.symm
          subst hhx9
          show x_X _ 56 [some (.inr (some 1)), some (.inr (some a)), some (.inr (some b)), some (.inr (some c)), some (.inl tt), some (.inl kk)] [.inl (atL l kk), .inr (some 1)] _ _
          refine xcV (as := [.inl (atL l kk)]) (rest := []) dm_Sc_replaceVariable_56 lc_Sc_put lm_Sc_28 li_Sc_put (nr rfl rfl) rfl rfl (scP_c hp).choose_spec rfl (nl rfl) (sc_put hp ix) ?_
          rintro _ h2 ⟨rfl, hp2, g2⟩
          show x_X _ 59 [some (.inr (some 1)), some (.inr (some a)), some (.inr (some b)), some (.inr (some c)), some (.inl tt), some (.inl kk)] [] _ _
          refine xx (xs_iinc dm_Sc_replaceVariable_59 rfl (by decide)) ?_
          show x_X _ 62 [some (.inr (some 1)), some (.inr (some a)), some (.inr (some b)), some (.inr (some c)), some (.inl tt), some (.inl (kk + 1))] [] _ _
          refine xx (xs_goto (tgt := 6) dm_Sc_replaceVariable_62 rfl) ?_
          refine xxq (ih (k + 1) t _ _ h2 _ (by omega) (by omega) (by omega) (by omega) (by omega) hp2 (rwA_p hr1' g2) (rwA_p hr2' g2) (rwA_p hr3 g2) (gr_p hg g2 (Nat.le_refl _) (Nat.le_refl _))) ?_
          rintro r hf ⟨q1, q2⟩
          refine ⟨?_, q2⟩
          rw [hdl] at hpf ⊢
          rw [rplC, if_neg hpf, if_pos (by omega)]
          rw [show t - (k + 1) = 0 by omega, e1, List.append_assoc] at q1
          exact q1
set_option maxHeartbeats 4000000 in
set_option maxRecDepth 100000 in
theorem sc_replaceVariable {h : xH} {a b c : Nat} {l v u : List Int} (hp : scP h []) (hr1 : rwA h a l) (hr2 : rwA h b v) (hr3 : rwA h c u) (hv9 : ∀ x ∈ v, x ≠ -1) : x_Mx mm_Sc_replaceVariable [.inr (some 1), .inr (some a), .inr (some b), .inr (some c)] h (fun r hf => nrow pP 2 84 h ((rplC v u l 0).take 81) r hf ∧ scP hf []) := by
  refine xmx rfl (nl rfl) ?_
  show x_X _ 0 [some (.inr (some 1)), some (.inr (some a)), some (.inr (some b)), some (.inr (some c)), none, none] [] _ _
  refine xx (xs_iconst dm_Sc_replaceVariable_0) ?_
  refine xx (xs_istore dm_Sc_replaceVariable_1 (by decide)) ?_
  show x_X _ 3 [some (.inr (some 1)), some (.inr (some a)), some (.inr (some b)), some (.inr (some c)), some (.inl 0), none] [] _ _
  refine xx (xs_iconst dm_Sc_replaceVariable_3) ?_
  refine xx (xs_istore dm_Sc_replaceVariable_4 (by decide)) ?_
  show x_X _ 6 [some (.inr (some 1)), some (.inr (some a)), some (.inr (some b)), some (.inr (some c)), some (.inl 0), some (.inl 0)] [] _ _
  have := sc_replaceVariable_l (rwA_16 hr1) hv9 (l.length + 1) 0 0 0 0 h [] (by omega) (by omega) rfl rfl (by omega) hp hr1 hr2 hr3 (gr_rf _ _)
  simpa using this
set_option maxHeartbeats 4000000 in
set_option maxRecDepth 100000 in
theorem sc_replaceType_l {h0 : xH} {a c : Nat} {K : Int} {l u : List Int} (h16 : 23 ≤ h0.1.length) (hK : 0 ≤ K ∧ K ≤ 3) : ∀ (N k : Nat) (kk : Int) (h : xH) (w : List Int), l.length - k < N → k ≤ l.length → kk = k → scP h w → rwA h a l → rwA h c u → gr pP 0 0 h0 h → x_X mm_Sc_replaceTypeVariable 3 [some (.inr (some 1)), some (.inr (some a)), some (.inl K), some (.inr (some c)), some (.inl kk)] [] h (fun r hf => nrow pP 2 84 h0 ((w ++ rtC K u (l.drop k) (atL l ((k : Int) - 1))).take 81) r hf ∧ scP hf []) := by
  intro N
  induction N with
  | zero => intro k kk h w hN; omega
  | succ N ih =>
    intro k kk h w hN hk hkk hp hr1 hr3 hg
    have l1 := rwA_len hr1
    have hr1' := hr1
    obtain ⟨ra1, ri1, s1, f1, A1, rs1, rc1, rd1, rl1, rf1, rg1⟩ := hr1
    by_cases hkn : k = l.length
    · refine xx (xs_iload dm_Sc_replaceTypeVariable_3 rfl) ?_
      refine xx (xs_aload_n dm_Sc_replaceTypeVariable_5 rfl) ?_
      refine xx (xs_getf dm_Sc_replaceTypeVariable_6 lf_Sc_47 rc1 rfl) ?_
      refine xx (xs_icmp_ge_t (tgt := 57) dm_Sc_replaceTypeVariable_9 rfl (by unfold ir; omega) (by unfold ir; omega) (by omega)) ?_
      refine xx (xs_aload_n dm_Sc_replaceTypeVariable_57 rfl) ?_
      refine xcV (as := []) (rest := []) dm_Sc_replaceTypeVariable_58 lc_Sc_finishedRow lm_Sc_32 li_Sc_finishedRow (nr rfl rfl) rfl rfl (scP_c hp).choose_spec rfl (nl rfl) (sc_finishedRow hp (gr_len hg h16)) ?_
      rintro _ h9 ⟨⟨b9, rfl, g9, w9⟩, p9⟩
      show x_X _ 61 [some (.inr (some 1)), some (.inr (some a)), some (.inl K), some (.inr (some c)), some (.inl kk)] [.inr (some b9)] _ _
      exact ⟨_, _, xb_a dm_Sc_replaceTypeVariable_61 rfl (Or.inl ⟨_, rfl⟩), ⟨b9, rfl, gr_p hg g9 (by omega) (by omega), by rw [hkn, List.drop_length]; simpa [rtC] using w9⟩, p9⟩
    · obtain ⟨x, hx⟩ : ∃ x, l[k]? = some x := ⟨_, List.getElem?_eq_getElem (by omega)⟩
      have hdl := drop_at hx
      have e1 : atL l kk = x := by rw [hkk]; exact atL_n hx
      have ix : ir (atL l kk) := atL_ir ri1 _
      have hpv : atL l (((k + 1 : Nat) : Int) - 1) = x := by rw [show ((k + 1 : Nat) : Int) - 1 = (k : Int) by omega]; exact atL_n hx
      have hio : ioT l kk ↔ (x < 10 ∧ atL l ((k : Int) - 1) ≠ 10 ∧ atL l ((k : Int) - 1) ≠ 11) := by unfold ioT; rw [e1, hkk]
      refine xx (xs_iload dm_Sc_replaceTypeVariable_3 rfl) ?_
      refine xx (xs_aload_n dm_Sc_replaceTypeVariable_5 rfl) ?_
      refine xx (xs_getf dm_Sc_replaceTypeVariable_6 lf_Sc_47 rc1 rfl) ?_
      refine xx (xs_icmp_ge_f (tgt := 57) dm_Sc_replaceTypeVariable_9 rfl (by unfold ir; omega) (by unfold ir; omega) (by omega)) ?_
      refine xx (xs_aload_n dm_Sc_replaceTypeVariable_12 rfl) ?_
      refine xx (xs_iload dm_Sc_replaceTypeVariable_13 rfl) ?_
      by_cases ho : ioT l kk
      · refine xcV (as := [.inl kk]) (rest := []) dm_Sc_replaceTypeVariable_15 lc_Ro_isOfType lm_Sc_65 li_Ro_isOfType (nr rfl rfl) rfl rfl rc1 rfl (nl rfl) (ro_isOfType (R := 1) hr1' (by omega) (fun _ => rfl) (fun h => absurd ho h)) ?_
        rintro _ hx9 ⟨rfl, hhx9⟩
        have hhx9 := hhx9.symm
        subst hhx9
        show x_X _ 18 [some (.inr (some 1)), some (.inr (some a)), some (.inl K), some (.inr (some c)), some (.inl kk)] [.inl 1] _ _
        refine xx (xs_if_eq_f (tgt := 41) dm_Sc_replaceTypeVariable_18 rfl (by unfold ir; omega) (by decide)) ?_
        refine xx (xs_aload_n dm_Sc_replaceTypeVariable_21 rfl) ?_
        refine xx (xs_iload dm_Sc_replaceTypeVariable_22 rfl) ?_
        refine xcV (as := [.inl kk]) (rest := []) dm_Sc_replaceTypeVariable_24 lc_Ro_at lm_Sc_51 li_Ro_at (nr rfl rfl) rfl rfl rc1 rfl (nl rfl) (ro_at hr1' (by unfold ir; omega)) ?_
        rintro _ hx9 ⟨rfl, hhx9⟩
        have hhx9 := hhx9.symm
        subst hhx9
        show x_X _ 27 [some (.inr (some 1)), some (.inr (some a)), some (.inl K), some (.inr (some c)), some (.inl kk)] [.inl (atL l kk)] _ _
        refine xx (xs_iconst dm_Sc_replaceTypeVariable_27) ?_
        refine xx (xs_iload_n dm_Sc_replaceTypeVariable_28 rfl) ?_
        refine xx (xs_iadd dm_Sc_replaceTypeVariable_29) ?_
        refine xx_icmp_ne (tgt := 41) dm_Sc_replaceTypeVariable_30 rfl ix (by unfold ir; omega) (fun hc => ?_) (fun hc => ?_)
        · change x_X _ 41 _ _ _ _
          rw [e1] at hc
          refine xx (xs_aload_n dm_Sc_replaceTypeVariable_41 rfl) ?_
          refine xx (xs_aload_n dm_Sc_replaceTypeVariable_42 rfl) ?_
          refine xx (xs_iload dm_Sc_replaceTypeVariable_43 rfl) ?_
          refine xcV (as := [.inl kk]) (rest := [.inr (some 1)]) dm_Sc_replaceTypeVariable_45 lc_Ro_at lm_Sc_51 li_Ro_at (nr rfl rfl) rfl rfl rc1 rfl (nl rfl) (ro_at hr1' (by unfold ir; omega)) ?_
          rintro _ hx9 ⟨rfl, hhx9⟩
          have hhx9 := hhx9.symm
          subst hhx9
          show x_X _ 48 [some (.inr (some 1)), some (.inr (some a)), some (.inl K), some (.inr (some c)), some (.inl kk)] [.inl (atL l kk), .inr (some 1)] _ _
          refine xcV (as := [.inl (atL l kk)]) (rest := []) dm_Sc_replaceTypeVariable_48 lc_Sc_put lm_Sc_28 li_Sc_put (nr rfl rfl) rfl rfl (scP_c hp).choose_spec rfl (nl rfl) (sc_put hp ix) ?_
          rintro _ h2 ⟨rfl, hp2, g2⟩
          show x_X _ 51 [some (.inr (some 1)), some (.inr (some a)), some (.inl K), some (.inr (some c)), some (.inl kk)] [] _ _
          refine xx (xs_iinc dm_Sc_replaceTypeVariable_51 rfl (by decide)) ?_
          show x_X _ 54 [some (.inr (some 1)), some (.inr (some a)), some (.inl K), some (.inr (some c)), some (.inl (kk + 1))] [] _ _
          refine xx (xs_goto (tgt := 3) dm_Sc_replaceTypeVariable_54 rfl) ?_
          refine xxq (ih (k + 1) _ h2 _ (by omega) (by omega) (by omega) hp2 (rwA_p hr1' g2) (rwA_p hr3 g2) (gr_p hg g2 (Nat.le_refl _) (Nat.le_refl _))) ?_
          rintro r hf ⟨q1, q2⟩
          refine ⟨?_, q2⟩
          rw [hdl]
          rw [rtC, if_neg (fun h => hc h.2)]
          rw [hpv, e1, List.append_assoc] at q1
          exact q1
        · change x_X _ 33 _ _ _ _
          rw [e1] at hc
          refine xx (xs_aload_n dm_Sc_replaceTypeVariable_33 rfl) ?_
          refine xx (xs_aload_n dm_Sc_replaceTypeVariable_34 rfl) ?_
          refine xcV (as := [.inr (some c)]) (rest := []) dm_Sc_replaceTypeVariable_35 lc_Sc_putRow lm_Sc_36 li_Sc_putRow (nr rfl rfl) rfl rfl (scP_c hp).choose_spec rfl (nl rfl) (sc_putRow hp hr3) ?_
          rintro _ h2 ⟨rfl, hp2, g2⟩
          show x_X _ 38 [some (.inr (some 1)), some (.inr (some a)), some (.inl K), some (.inr (some c)), some (.inl kk)] [] _ _
          refine xx (xs_goto (tgt := 51) dm_Sc_replaceTypeVariable_38 rfl) ?_
          refine xx (xs_iinc dm_Sc_replaceTypeVariable_51 rfl (by decide)) ?_
          show x_X _ 54 [some (.inr (some 1)), some (.inr (some a)), some (.inl K), some (.inr (some c)), some (.inl (kk + 1))] [] _ _
          refine xx (xs_goto (tgt := 3) dm_Sc_replaceTypeVariable_54 rfl) ?_
          refine xxq (ih (k + 1) _ h2 _ (by omega) (by omega) (by omega) hp2 (rwA_p hr1' g2) (rwA_p hr3 g2) (gr_p hg g2 (Nat.le_refl _) (Nat.le_refl _))) ?_
          rintro r hf ⟨q1, q2⟩
          refine ⟨?_, q2⟩
          rw [hdl]
          rw [rtC, if_pos ⟨hio.mp ho, hc⟩]
          rw [hpv, List.append_assoc] at q1
          exact q1
      · refine xcV (as := [.inl kk]) (rest := []) dm_Sc_replaceTypeVariable_15 lc_Ro_isOfType lm_Sc_65 li_Ro_isOfType (nr rfl rfl) rfl rfl rc1 rfl (nl rfl) (ro_isOfType (R := 0) hr1' (by omega) (fun h => absurd h ho) (fun _ => rfl)) ?_
        rintro _ hx9 ⟨rfl, hhx9⟩
        have hhx9 := hhx9.symm
        subst hhx9
        show x_X _ 18 [some (.inr (some 1)), some (.inr (some a)), some (.inl K), some (.inr (some c)), some (.inl kk)] [.inl 0] _ _
        refine xx (xs_if_eq_t (tgt := 41) dm_Sc_replaceTypeVariable_18 rfl (by unfold ir; omega) (by decide)) ?_
        refine xx (xs_aload_n dm_Sc_replaceTypeVariable_41 rfl) ?_
        refine xx (xs_aload_n dm_Sc_replaceTypeVariable_42 rfl) ?_
        refine xx (xs_iload dm_Sc_replaceTypeVariable_43 rfl) ?_
        refine xcV (as := [.inl kk]) (rest := [.inr (some 1)]) dm_Sc_replaceTypeVariable_45 lc_Ro_at lm_Sc_51 li_Ro_at (nr rfl rfl) rfl rfl rc1 rfl (nl rfl) (ro_at hr1' (by unfold ir; omega)) ?_
        rintro _ hx9 ⟨rfl, hhx9⟩
        have hhx9 := hhx9.symm
        subst hhx9
        show x_X _ 48 [some (.inr (some 1)), some (.inr (some a)), some (.inl K), some (.inr (some c)), some (.inl kk)] [.inl (atL l kk), .inr (some 1)] _ _
        refine xcV (as := [.inl (atL l kk)]) (rest := []) dm_Sc_replaceTypeVariable_48 lc_Sc_put lm_Sc_28 li_Sc_put (nr rfl rfl) rfl rfl (scP_c hp).choose_spec rfl (nl rfl) (sc_put hp ix) ?_
        rintro _ h2 ⟨rfl, hp2, g2⟩
        show x_X _ 51 [some (.inr (some 1)), some (.inr (some a)), some (.inl K), some (.inr (some c)), some (.inl kk)] [] _ _
        refine xx (xs_iinc dm_Sc_replaceTypeVariable_51 rfl (by decide)) ?_
        show x_X _ 54 [some (.inr (some 1)), some (.inr (some a)), some (.inl K), some (.inr (some c)), some (.inl (kk + 1))] [] _ _
        refine xx (xs_goto (tgt := 3) dm_Sc_replaceTypeVariable_54 rfl) ?_
        refine xxq (ih (k + 1) _ h2 _ (by omega) (by omega) (by omega) hp2 (rwA_p hr1' g2) (rwA_p hr3 g2) (gr_p hg g2 (Nat.le_refl _) (Nat.le_refl _))) ?_
        rintro r hf ⟨q1, q2⟩
        refine ⟨?_, q2⟩
        rw [hdl]
        rw [rtC, if_neg (fun h => ho (hio.mpr h.1))]
        rw [hpv, e1, List.append_assoc] at q1
        exact q1
set_option maxHeartbeats 4000000 in
set_option maxRecDepth 100000 in
theorem sc_replaceType {h : xH} {a c : Nat} {K : Int} {l u : List Int} (hp : scP h []) (hr1 : rwA h a l) (hr3 : rwA h c u) (hK : 0 ≤ K ∧ K ≤ 3) : x_Mx mm_Sc_replaceTypeVariable [.inr (some 1), .inr (some a), .inl K, .inr (some c)] h (fun r hf => nrow pP 2 84 h ((rtC K u l (-1)).take 81) r hf ∧ scP hf []) := by
  refine xmx rfl (nl rfl) ?_
  show x_X _ 0 [some (.inr (some 1)), some (.inr (some a)), some (.inl K), some (.inr (some c)), none] [] _ _
  refine xx (xs_iconst dm_Sc_replaceTypeVariable_0) ?_
  refine xx (xs_istore dm_Sc_replaceTypeVariable_1 (by decide)) ?_
  show x_X _ 3 [some (.inr (some 1)), some (.inr (some a)), some (.inl K), some (.inr (some c)), some (.inl 0)] [] _ _
  have e0 : atL l (((0 : Nat) : Int) - 1) = -1 := atL_o (by omega)
  have := sc_replaceType_l (rwA_16 hr1) hK (l.length + 1) 0 0 h [] (by omega) (by omega) rfl hp hr1 hr3 (gr_rf _ _)
  rw [e0] at this
  simpa using this
