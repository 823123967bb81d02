/-! the scribe and the depth -/
abbrev pD : Nat → Prop := fun i => 1 ≤ i ∧ i ≤ 4
theorem pD_S {i : Nat} (h : pD i) : pS i := ⟨h.1, by have := h.2; omega⟩
theorem rwA_d {C S : Nat} {h hf : xH} {a : Nat} {l : List Int} (hr : rwA h a l) (hg : gr pD C S h hf) : rwA hf a l := rwA_lo hr hg (fun i h e => by have := e.2; omega)
theorem gr_d {C S C' S' C2 S2 : Nat} {h h1 h2 : xH} (a : gr pD C S h h1) (b : gr pD C' S' h1 h2) (hC : C + C' ≤ C2) (hS : S + S' ≤ S2) : gr pD C2 S2 h h2 := gr_tr a b (fun _ _ e => e) hC hS
theorem gr_pd {C S : Nat} {h h1 : xH} (a : gr pP C S h h1) : gr pD C S h h1 := gr_w a (fun _ _ e => by rcases e with e | e <;> exact ⟨by omega, by omega⟩) (Nat.le_refl _) (Nat.le_refl _)
theorem gr_dd {C S : Nat} {h h1 : xH} (a : gr (fun i => i = 3 ∨ i = 4) C S h h1) : gr pD C S h h1 := gr_w a (fun _ _ e => by rcases e with e | e <;> exact ⟨by omega, by omega⟩) (Nat.le_refl _) (Nat.le_refl _)
theorem gr_fd {C S : Nat} {h h1 : xH} (a : gr (fun _ => False) C S h h1) : gr pD C S h h1 := gr_w a (fun _ _ e => e.elim) (Nat.le_refl _) (Nat.le_refl _)
theorem scD_p {C S B : Nat} {h hf : xH} {q : List Int × Int} (hd : scD h q B) (hg : gr pP C S h hf) : scD hf q B := scD_gr hd hg (fun e => by rcases e with e | e <;> omega) (fun e => by rcases e with e | e <;> omega)
theorem scP_d {C S : Nat} {h hf : xH} {w : List Int} (hp : scP h w) (hg : gr (fun i => i = 3 ∨ i = 4) C S h hf) : scP hf w := scP_gr hp hg (fun e => by rcases e with e | e <;> omega) (fun e => by rcases e with e | e <;> omega)
theorem scD_c {h : xH} {q : List Int × Int} {B : Nat} (hp : scD h q B) : h.1[3]? = some (.inr (.inr (0, [.inr (some 4), .inl (q.1.length : Int), .inl q.2]))) := by
  obtain ⟨pg, p1, c1, -⟩ := hp
  exact c1
theorem scP_1 {h : xH} {w : List Int} (hp : scP h w) : h.1[1]? = some (.inr (.inr (5, [.inr (some 2), .inl ((min w.length 81 : Nat) : Int), .inr (some 3), .inr (some 5)]))) := by
  obtain ⟨pg, p1, c1, -⟩ := hp
  exact c1
theorem dpS_len (s : Int) (q : List Int × Int) : (dpS s q).1.length ≤ q.1.length + 1 := by
  have := dpP_le q.1 q.2
  unfold dpS
  split
  · omega
  · split
    · show (dpP q.1 q.2).length ≤ _; omega
    · split
      · show ((q.2 - 1) :: dpP q.1 q.2).length ≤ _; simp; omega
      · show (dpP q.1 q.2).length ≤ _; omega
def scX (h : xH) : Prop := ∃ q B, scD h q B
set_option maxHeartbeats 4000000 in
set_option maxRecDepth 100000 in
theorem sc_outer_l {h0 : xH} {a c C0 S0 : Nat} {l u : List Int} (hC : 2 ≤ C0) (hS : 84 ≤ S0) (h16 : 23 ≤ h0.1.length) (hl : l.length ≤ 40) : ∀ (N k : Nat) (kk : Int) (h : xH) (w : List Int) (q : List Int × Int), l.length - k < N → k ≤ l.length → kk = k → scP h w → scD h q (k + 1) → q.1.length ≤ k → rwA h a l → rwA h c u → gr pD (C0 - 2) (S0 - 84) h0 h → x_X mm_Sc_replaceOutermost 9 [some (.inr (some 1)), some (.inr (some a)), some (.inr (some c)), some (.inl kk)] [] h (fun r hf => nrow pD C0 S0 h0 ((w ++ betC u (l.drop k) q).take 81) r hf ∧ scP hf [] ∧ scX hf) := by
  intro N
  induction N with
  | zero => intro k kk h w q hN; omega
  | succ N ih =>
    intro k kk h w q hN hk hkk hp hD hq hr1 hr3 hg
    have l1 := rwA_len hr1
    have hr1' := hr1
    have c1 := scP_1 hp
    have c3 := scD_c hD
    obtain ⟨ra1, ri1, s1, f1, A1, rs1, rc1, rd1, rl1, rf1, rg1⟩ := hr1
    by_cases hkn : k = l.length
    · refine xx (xs_iload_n dm_Sc_replaceOutermost_9 rfl) ?_
      refine xx (xs_aload_n dm_Sc_replaceOutermost_10 rfl) ?_
      refine xx (xs_getf dm_Sc_replaceOutermost_11 lf_Sc_47 rc1 rfl) ?_
      refine xx (xs_icmp_ge_t (tgt := 70) dm_Sc_replaceOutermost_14 rfl (by unfold ir; omega) (by unfold ir; omega) (by omega)) ?_
      refine xx (xs_aload_n dm_Sc_replaceOutermost_70 rfl) ?_
      refine xcV (as := []) (rest := []) dm_Sc_replaceOutermost_71 lc_Sc_finishedRow lm_Sc_32 li_Sc_finishedRow (nr rfl rfl) rfl rfl c1 rfl (nl rfl) (sc_finishedRow hp (gr_len hg h16)) ?_
      rintro _ h9 ⟨⟨b9, rfl, g9, w9⟩, p9⟩
      show x_X _ 74 [some (.inr (some 1)), some (.inr (some a)), some (.inr (some c)), some (.inl kk)] [.inr (some b9)] _ _
      exact ⟨_, _, xb_a dm_Sc_replaceOutermost_74 rfl (Or.inl ⟨_, rfl⟩), ⟨b9, rfl, gr_d hg (gr_pd g9) (by omega) (by omega), by rw [hkn, List.drop_length]; simpa [betC] using w9⟩, p9, _, _, scD_p hD g9⟩
    · obtain ⟨x, hx⟩ : ∃ x, l[k]? = some x := ⟨_, List.getElem?_eq_getElem (by omega)⟩
      have hdl := drop_at hx
      have e1 : atL l kk = x := by rw [hkk]; exact atL_n hx
      have ix : ir (atL l kk) := atL_ir ri1 _
      refine xx (xs_iload_n dm_Sc_replaceOutermost_9 rfl) ?_
      refine xx (xs_aload_n dm_Sc_replaceOutermost_10 rfl) ?_
      refine xx (xs_getf dm_Sc_replaceOutermost_11 lf_Sc_47 rc1 rfl) ?_
      refine xx (xs_icmp_ge_f (tgt := 70) dm_Sc_replaceOutermost_14 rfl (by unfold ir; omega) (by unfold ir; omega) (by omega)) ?_
      refine xx (xs_aload_n dm_Sc_replaceOutermost_17 rfl) ?_
      refine xx (xs_getf dm_Sc_replaceOutermost_18 lf_Sc_18 c1 rfl) ?_
      refine xx (xs_aload_n dm_Sc_replaceOutermost_21 rfl) ?_
      refine xx (xs_iload_n dm_Sc_replaceOutermost_22 rfl) ?_
      refine xcV (as := [.inl kk]) (rest := [.inr (some 3)]) dm_Sc_replaceOutermost_23 lc_Ro_at lm_Sc_51 li_Ro_at (nr rfl rfl) rfl rfl rc1 rfl (nl rfl) (ro_at hr1' (by unfold ir; omega)) ?_
      rintro _ hx9 ⟨rfl, hhx9⟩
      have hhx9 := hhx9.symm
      subst hhx9
      show x_X _ 26 [some (.inr (some 1)), some (.inr (some a)), some (.inr (some c)), some (.inl kk)] [.inl (atL l kk), .inr (some 3)] _ _
      refine xcV (as := [.inl (atL l kk)]) (rest := []) dm_Sc_replaceOutermost_26 lc_De_pass lm_Sc_55 li_De_pass (nr rfl rfl) rfl rfl c3 rfl (nl rfl) (de_pass hD ix (by omega) (by omega)) ?_
      rintro _ h1 ⟨rfl, hD1, g1⟩
      show x_X _ 29 [some (.inr (some 1)), some (.inr (some a)), some (.inr (some c)), some (.inl kk)] [] _ _
      rw [e1] at hD1
      have hdl1 := dpS_len x q
      have gd1 := gr_dd g1
      have hp1 := scP_d hp g1
      have c1 := scP_1 hp1
      have c3 := scD_c hD1
      have hr1'' := rwA_d hr1' gd1
      have hr3' := rwA_d hr3 gd1
      have rc1 := gd1.2 _ _ (fun e => by have := e.2; omega) rc1
      refine xx (xs_aload_n dm_Sc_replaceOutermost_29 rfl) ?_
      refine xx (xs_iload_n dm_Sc_replaceOutermost_30 rfl) ?_
      refine xcV (as := [.inl kk]) (rest := []) dm_Sc_replaceOutermost_31 lc_Ro_at lm_Sc_51 li_Ro_at (nr rfl rfl) rfl rfl rc1 rfl (nl rfl) (ro_at hr1'' (by unfold ir; omega)) ?_
      rintro _ hx9 ⟨rfl, hhx9⟩
      have hhx9 := hhx9.symm
      subst hhx9
      show x_X _ 34 [some (.inr (some 1)), some (.inr (some a)), some (.inr (some c)), some (.inl kk)] [.inl (atL l kk)] _ _
      refine xx (xs_bipush dm_Sc_replaceOutermost_34 (by decide)) ?_
      refine xx (xs_aload_n dm_Sc_replaceOutermost_36 rfl) ?_
      refine xx (xs_getf dm_Sc_replaceOutermost_37 lf_Sc_18 c1 rfl) ?_
      refine xx (xs_getf dm_Sc_replaceOutermost_40 lf_Sc_62 c3 rfl) ?_
      refine xx (xs_iadd dm_Sc_replaceOutermost_43) ?_
      refine xx_icmp_ne (tgt := 55) dm_Sc_replaceOutermost_44 rfl ix (by unfold ir; omega) (fun hc => ?_) (fun hc => ?_)
      · change x_X _ 55 _ _ _ _
        rw [e1] at hc
        refine xx (xs_aload_n dm_Sc_replaceOutermost_55 rfl) ?_
        refine xx (xs_aload_n dm_Sc_replaceOutermost_56 rfl) ?_
        refine xx (xs_iload_n dm_Sc_replaceOutermost_57 rfl) ?_
        refine xcV (as := [.inl kk]) (rest := [.inr (some 1)]) dm_Sc_replaceOutermost_58 lc_Ro_at lm_Sc_51 li_Ro_at (nr rfl rfl) rfl rfl rc1 rfl (nl rfl) (ro_at hr1'' (by unfold ir; omega)) ?_
        rintro _ hx9 ⟨rfl, hhx9⟩
        have hhx9 := hhx9.symm
        subst hhx9
        show x_X _ 61 [some (.inr (some 1)), some (.inr (some a)), some (.inr (some c)), some (.inl kk)] [.inl (atL l kk), .inr (some 1)] _ _
        refine xcV (as := [.inl (atL l kk)]) (rest := []) dm_Sc_replaceOutermost_61 lc_Sc_put lm_Sc_28 li_Sc_put (nr rfl rfl) rfl rfl c1 rfl (nl rfl) (sc_put hp1 ix) ?_
        rintro _ h2 ⟨rfl, hp2, g2⟩
        show x_X _ 64 [some (.inr (some 1)), some (.inr (some a)), some (.inr (some c)), some (.inl kk)] [] _ _
        refine xx (xs_iinc dm_Sc_replaceOutermost_64 rfl (by decide)) ?_
        show x_X _ 67 [some (.inr (some 1)), some (.inr (some a)), some (.inr (some c)), some (.inl (kk + 1))] [] _ _
        refine xx (xs_goto (tgt := 9) dm_Sc_replaceOutermost_67 rfl) ?_
        refine xxq (ih (k + 1) _ h2 _ (dpS x q) (by omega) (by omega) (by omega) hp2 (scD_p hD1 g2) (by omega) (rwA_p hr1'' g2) (rwA_p hr3' g2) (gr_d (gr_d hg gd1 (Nat.le_refl _) (Nat.le_refl _)) (gr_pd g2) (Nat.le_refl _) (Nat.le_refl _))) ?_
        rintro r hf ⟨q1, q2⟩
        refine ⟨?_, q2⟩
        rw [hdl]
        rw [betC, if_neg hc]
        rw [e1, List.append_assoc] at q1
        exact q1
      · change x_X _ 47 _ _ _ _
        rw [e1] at hc
        refine xx (xs_aload_n dm_Sc_replaceOutermost_47 rfl) ?_
        refine xx (xs_aload_n dm_Sc_replaceOutermost_48 rfl) ?_
        refine xcV (as := [.inr (some c)]) (rest := []) dm_Sc_replaceOutermost_49 lc_Sc_putRow lm_Sc_36 li_Sc_putRow (nr rfl rfl) rfl rfl c1 rfl (nl rfl) (sc_putRow hp1 hr3') ?_
        rintro _ h2 ⟨rfl, hp2, g2⟩
        show x_X _ 52 [some (.inr (some 1)), some (.inr (some a)), some (.inr (some c)), some (.inl kk)] [] _ _
        refine xx (xs_goto (tgt := 64) dm_Sc_replaceOutermost_52 rfl) ?_
        refine xx (xs_iinc dm_Sc_replaceOutermost_64 rfl (by decide)) ?_
        show x_X _ 67 [some (.inr (some 1)), some (.inr (some a)), some (.inr (some c)), some (.inl (kk + 1))] [] _ _
        refine xx (xs_goto (tgt := 9) dm_Sc_replaceOutermost_67 rfl) ?_
        refine xxq (ih (k + 1) _ h2 _ (dpS x q) (by omega) (by omega) (by omega) hp2 (scD_p hD1 g2) (by omega) (rwA_p hr1'' g2) (rwA_p hr3' g2) (gr_d (gr_d hg gd1 (Nat.le_refl _) (Nat.le_refl _)) (gr_pd g2) (Nat.le_refl _) (Nat.le_refl _))) ?_
        rintro r hf ⟨q1, q2⟩
        refine ⟨?_, q2⟩
        rw [hdl]
        rw [betC, if_pos hc]
        rw [List.append_assoc] at q1
        exact q1
set_option maxHeartbeats 4000000 in
set_option maxRecDepth 100000 in
theorem sc_outer {h : xH} {a c : Nat} {l u : List Int} (hp : scP h []) (hX : scX h) (hr1 : rwA h a l) (hr3 : rwA h c u) (hl : l.length ≤ 40) : x_Mx mm_Sc_replaceOutermost [.inr (some 1), .inr (some a), .inr (some c)] h (fun r hf => nrow pD 2 84 h ((betC u l ([], 1)).take 81) r hf ∧ scP hf [] ∧ scX hf) := by
  refine xmx rfl (nl rfl) ?_
  obtain ⟨q, B, hD⟩ := hX
  have c1 := scP_1 hp
  have c3 := scD_c hD
  show x_X _ 0 [some (.inr (some 1)), some (.inr (some a)), some (.inr (some c)), none] [] _ _
  refine xx (xs_aload_n dm_Sc_replaceOutermost_0 rfl) ?_
  refine xx (xs_getf dm_Sc_replaceOutermost_1 lf_Sc_18 c1 rfl) ?_
  refine xcV (as := []) (rest := []) dm_Sc_replaceOutermost_4 lc_De_begin lm_Sc_44 li_De_begin (nr rfl rfl) rfl rfl c3 rfl (nl rfl) (de_begin hD) ?_
  rintro _ h1 ⟨rfl, hD1, g1⟩
  show x_X _ 7 [some (.inr (some 1)), some (.inr (some a)), some (.inr (some c)), none] [] _ _
  refine xx (xs_iconst dm_Sc_replaceOutermost_7) ?_
  refine xx (xs_istore_n dm_Sc_replaceOutermost_8 (by decide)) ?_
  show x_X _ 9 [some (.inr (some 1)), some (.inr (some a)), some (.inr (some c)), some (.inl 0)] [] _ _
  have := sc_outer_l (C0 := 2) (S0 := 84) (Nat.le_refl _) (Nat.le_refl _) (rwA_16 hr1) hl (l.length + 1) 0 0 h1 [] ([], 1) (by omega) (by omega) rfl (scP_d hp g1) hD1 (by simp) (rwA_d hr1 (gr_dd g1)) (rwA_d hr3 (gr_dd g1)) (gr_dd g1)
  simpa using this
set_option maxHeartbeats 4000000 in
set_option maxRecDepth 100000 in
theorem sc_abs_l {h0 : xH} {a c C0 S0 : Nat} {l u : List Int} (hC : 2 ≤ C0) (hS : 84 ≤ S0) (h16 : 23 ≤ h0.1.length) (hl : l.length ≤ 40) (hv9 : ∀ x ∈ u, x ≠ -1) : ∀ (N k t : Nat) (kk tt : Int) (h : xH) (w : List Int) (q : List Int × Int), l.length - k < N → k ≤ l.length → kk = k → tt = t → t ≤ 1000 → scP h w → scD h q (k + 1) → q.1.length ≤ k → rwA h a l → rwA h c u → gr pD (C0 - 2) (S0 - 84) h0 h → x_X mm_Sc_abstraction 27 [some (.inr (some 1)), some (.inr (some c)), some (.inr (some a)), some (.inl tt), some (.inl kk)] [] h (fun r hf => nrow pD C0 S0 h0 ((w ++ absC u (l.drop k) q (t - k)).take 81) r hf ∧ scP hf [] ∧ scX hf) := by
  intro N
  induction N with
  | zero => intro k t kk tt h w q hN; omega
  | succ N ih =>
    intro k t kk tt h w q hN hk hkk htt ht hp hD hq hr1 hr3 hg
    have l1 := rwA_len hr1
    have l3 := rwA_len hr3
    have hr1' := hr1
    have hr3' := hr3
    have c1 := scP_1 hp
    have c3 := scD_c hD
    obtain ⟨ra1, ri1, s1, f1, A1, rs1, rc1, rd1, rl1, rf1, rg1⟩ := hr1
    obtain ⟨ra3, ri3, s3, f3, A3, rs3, rc3, rd3, rl3, rf3, rg3⟩ := hr3
    have hr3 := hr3'
    by_cases hkn : k = l.length
    · refine xx (xs_iload dm_Sc_abstraction_27 rfl) ?_
      refine xx (xs_aload_n dm_Sc_abstraction_29 rfl) ?_
      refine xx (xs_getf dm_Sc_abstraction_30 lf_Sc_47 rc1 rfl) ?_
      refine xx (xs_icmp_ge_t (tgt := 106) dm_Sc_abstraction_33 rfl (by unfold ir; omega) (by unfold ir; omega) (by omega)) ?_
      refine xx (xs_aload_n dm_Sc_abstraction_106 rfl) ?_
      refine xcV (as := []) (rest := []) dm_Sc_abstraction_107 lc_Sc_finishedRow lm_Sc_32 li_Sc_finishedRow (nr rfl rfl) rfl rfl c1 rfl (nl rfl) (sc_finishedRow hp (gr_len hg h16)) ?_
      rintro _ h9 ⟨⟨b9, rfl, g9, w9⟩, p9⟩
      show x_X _ 110 [some (.inr (some 1)), some (.inr (some c)), some (.inr (some a)), some (.inl tt), some (.inl kk)] [.inr (some b9)] _ _
      exact ⟨_, _, xb_a dm_Sc_abstraction_110 rfl (Or.inl ⟨_, rfl⟩), ⟨b9, rfl, gr_d hg (gr_pd g9) (by omega) (by omega), by rw [hkn, List.drop_length]; simpa [absC] using w9⟩, p9, _, _, scD_p hD g9⟩
    · obtain ⟨x, hx⟩ : ∃ x, l[k]? = some x := ⟨_, List.getElem?_eq_getElem (by omega)⟩
      have hdl := drop_at hx
      have e1 : atL l kk = x := by rw [hkk]; exact atL_n hx
      have ix : ir (atL l kk) := atL_ir ri1 _
      refine xx (xs_iload dm_Sc_abstraction_27 rfl) ?_
      refine xx (xs_aload_n dm_Sc_abstraction_29 rfl) ?_
      refine xx (xs_getf dm_Sc_abstraction_30 lf_Sc_47 rc1 rfl) ?_
      refine xx (xs_icmp_ge_f (tgt := 106) dm_Sc_abstraction_33 rfl (by unfold ir; omega) (by unfold ir; omega) (by omega)) ?_
      refine xx (xs_aload_n dm_Sc_abstraction_36 rfl) ?_
      refine xx (xs_getf dm_Sc_abstraction_37 lf_Sc_18 c1 rfl) ?_
      refine xx (xs_aload_n dm_Sc_abstraction_40 rfl) ?_
      refine xx (xs_iload dm_Sc_abstraction_41 rfl) ?_
      refine xcV (as := [.inl kk]) (rest := [.inr (some 3)]) dm_Sc_abstraction_43 lc_Ro_at lm_Sc_51 li_Ro_at (nr rfl rfl) rfl rfl rc1 rfl (nl rfl) (ro_at hr1' (by unfold ir; omega)) ?_
      rintro _ hx9 ⟨rfl, hhx9⟩
      have hhx9 := hhx9.symm
      subst hhx9
      show x_X _ 46 [some (.inr (some 1)), some (.inr (some c)), some (.inr (some a)), some (.inl tt), some (.inl kk)] [.inl (atL l kk), .inr (some 3)] _ _
      refine xcV (as := [.inl (atL l kk)]) (rest := []) dm_Sc_abstraction_46 lc_De_pass lm_Sc_55 li_De_pass (nr rfl rfl) rfl rfl c3 rfl (nl rfl) (de_pass hD ix (by omega) (by omega)) ?_
      rintro _ h1 ⟨rfl, hD1, g1⟩
      show x_X _ 49 [some (.inr (some 1)), some (.inr (some c)), some (.inr (some a)), some (.inl tt), some (.inl kk)] [] _ _
      rw [e1] at hD1
      have hdl1 := dpS_len x q
      have gd1 := gr_dd g1
      have hp1 := scP_d hp g1
      have c1 := scP_1 hp1
      have c3 := scD_c hD1
      have hr1'' := rwA_d hr1' gd1
      have hr3' := rwA_d hr3 gd1
      have rc1 := gd1.2 _ _ (fun e => by have := e.2; omega) rc1
      have rc3 := gd1.2 _ _ (fun e => by have := e.2; omega) rc3
      refine xx (xs_aload_n dm_Sc_abstraction_49 rfl) ?_
      refine xx (xs_iload dm_Sc_abstraction_50 rfl) ?_
      refine xx (xs_aload_n dm_Sc_abstraction_52 rfl) ?_
      refine xcV (as := [.inl kk, .inr (some c)]) (rest := []) dm_Sc_abstraction_53 lc_Ro_holdsAt lm_Sc_58 li_Ro_holdsAt (nr rfl rfl) rfl rfl rc1 rfl (nl rfl) (ro_holdsAt hr1'' hr3' hv9 (by omega) (by omega)) ?_
      rintro _ hx9 ⟨rfl, hhx9⟩
      have hhx9 := hhx9.symm
      subst hhx9
      show x_X _ 56 [some (.inr (some 1)), some (.inr (some c)), some (.inr (some a)), some (.inl tt), some (.inl kk)] [.inl (if u.isPrefixOf (l.drop kk.toNat) = true then 1 else 0)] _ _
      rw [show kk.toNat = k by omega]
      by_cases hpf : u.isPrefixOf (l.drop k) = true
      · rw [if_pos hpf]
        refine xx (xs_if_eq_f (tgt := 84) dm_Sc_abstraction_56 rfl (by unfold ir; omega) (by decide)) ?_
        refine xx (xs_aload_n dm_Sc_abstraction_59 rfl) ?_
        refine xx (xs_bipush dm_Sc_abstraction_60 (by decide)) ?_
        refine xx (xs_aload_n dm_Sc_abstraction_62 rfl) ?_
        refine xx (xs_getf dm_Sc_abstraction_63 lf_Sc_18 c1 rfl) ?_
        refine xx (xs_getf dm_Sc_abstraction_66 lf_Sc_62 c3 rfl) ?_
        refine xx (xs_iadd dm_Sc_abstraction_69) ?_
        refine xcV (as := [.inl (20 + ((dpS x q).1.length : Int))]) (rest := []) dm_Sc_abstraction_70 lc_Sc_put lm_Sc_28 li_Sc_put (nr rfl rfl) rfl rfl c1 rfl (nl rfl) (sc_put hp1 (by unfold ir; omega)) ?_
        rintro _ h2 ⟨rfl, hp2, g2⟩
        show x_X _ 73 [some (.inr (some 1)), some (.inr (some c)), some (.inr (some a)), some (.inl tt), some (.inl kk)] [] _ _
        have rc3 := g2.2 _ _ (pP_hi ra3) rc3
        refine xx (xs_iload dm_Sc_abstraction_73 rfl) ?_
        refine xx (xs_aload_n dm_Sc_abstraction_75 rfl) ?_
        refine xx (xs_getf dm_Sc_abstraction_76 lf_Sc_47 rc3 rfl) ?_
        refine xx (xs_iadd dm_Sc_abstraction_79) ?_
        refine xx (xs_istore_n dm_Sc_abstraction_80 (by decide)) ?_
        show x_X _ 81 [some (.inr (some 1)), some (.inr (some c)), some (.inr (some a)), some (.inl (kk + (u.length : Int))), some (.inl kk)] [] _ _
        refine xx (xs_goto (tgt := 100) dm_Sc_abstraction_81 rfl) ?_
        refine xx (xs_iinc dm_Sc_abstraction_100 rfl (by decide)) ?_
        show x_X _ 103 [some (.inr (some 1)), some (.inr (some c)), some (.inr (some a)), some (.inl (kk + (u.length : Int))), some (.inl (kk + 1))] [] _ _
        refine xx (xs_goto (tgt := 27) dm_Sc_abstraction_103 rfl) ?_
        refine xxq (ih (k + 1) (k + u.length) _ _ h2 _ (dpS x q) (by omega) (by omega) (by omega) (by omega) (by omega) hp2 (scD_p hD1 g2) (by omega) (rwA_p hr1'' g2) (rwA_p hr3' g2) (gr_d (gr_d hg gd1 (Nat.le_refl _) (Nat.le_refl _)) (gr_pd g2) (Nat.le_refl _) (Nat.le_refl _))) ?_
        rintro r hf ⟨q1, q2⟩
        refine ⟨?_, q2⟩
        rw [hdl] at hpf ⊢
        rw [absC, if_pos hpf]
        rw [show k + u.length - (k + 1) = u.length - 1 by omega, List.append_assoc] at q1
        exact q1
      · rw [if_neg hpf]
        refine xx (xs_if_eq_t (tgt := 84) dm_Sc_abstraction_56 rfl (by unfold ir; omega) (by decide)) ?_
        refine xx (xs_iload dm_Sc_abstraction_84 rfl) ?_
        refine xx (xs_iload_n dm_Sc_abstraction_86 rfl) ?_
        refine xx_icmp_lt (tgt := 100) dm_Sc_abstraction_87 rfl (by unfold ir; omega) (by unfold ir; omega) (fun hc => ?_) (fun hc => ?_)
        · change x_X _ 100 _ _ _ _
          refine xx (xs_iinc dm_Sc_abstraction_100 rfl (by decide)) ?_
          show x_X _ 103 [some (.inr (some 1)), some (.inr (some c)), some (.inr (some a)), some (.inl tt), some (.inl (kk + 1))] [] _ _
          refine xx (xs_goto (tgt := 27) dm_Sc_abstraction_103 rfl) ?_
          refine xxq (ih (k + 1) t _ _ h1 _ (dpS x q) (by omega) (by omega) (by omega) htt ht hp1 hD1 (by omega) hr1'' hr3' (gr_d hg gd1 (Nat.le_refl _) (Nat.le_refl _))) ?_
          rintro r hf ⟨q1, q2⟩
          refine ⟨?_, q2⟩
          rw [hdl] at hpf ⊢
          rw [absC, if_neg hpf, if_neg (by omega), show t - k - 1 = t - (k + 1) by omega]
          exact q1
        · change x_X _ 90 _ _ _ _
          refine xx (xs_aload_n dm_Sc_abstraction_90 rfl) ?_
          refine xx (xs_aload_n dm_Sc_abstraction_91 rfl) ?_
          refine xx (xs_iload dm_Sc_abstraction_92 rfl) ?_
          refine xcV (as := [.inl kk]) (rest := [.inr (some 1)]) dm_Sc_abstraction_94 lc_Ro_at lm_Sc_51 li_Ro_at (nr rfl rfl) rfl rfl rc1 rfl (nl rfl) (ro_at hr1'' (by unfold ir; omega)) ?_
          rintro _ hx9 ⟨rfl, hhx9⟩
          have hhx9 := hhx9.symm
          subst hhx9
          show x_X _ 97 [some (.inr (some 1)), some (.inr (some c)), some (.inr (some a)), some (.inl tt), some (.inl kk)] [.inl (atL l kk), .inr (some 1)] _ _
          refine xcV (as := [.inl (atL l kk)]) (rest := []) dm_Sc_abstraction_97 lc_Sc_put lm_Sc_28 li_Sc_put (nr rfl rfl) rfl rfl c1 rfl (nl rfl) (sc_put hp1 ix) ?_
          rintro _ h2 ⟨rfl, hp2, g2⟩
          show x_X _ 100 [some (.inr (some 1)), some (.inr (some c)), some (.inr (some a)), some (.inl tt), some (.inl kk)] [] _ _
          refine xx (xs_iinc dm_Sc_abstraction_100 rfl (by decide)) ?_
          show x_X _ 103 [some (.inr (some 1)), some (.inr (some c)), some (.inr (some a)), some (.inl tt), some (.inl (kk + 1))] [] _ _
          refine xx (xs_goto (tgt := 27) dm_Sc_abstraction_103 rfl) ?_
          refine xxq (ih (k + 1) t _ _ h2 _ (dpS x q) (by omega) (by omega) (by omega) (by omega) (by omega) hp2 (scD_p hD1 g2) (by omega) (rwA_p hr1'' g2) (rwA_p hr3' g2) (gr_d (gr_d hg gd1 (Nat.le_refl _) (Nat.le_refl _)) (gr_pd g2) (Nat.le_refl _) (Nat.le_refl _))) ?_
          rintro r hf ⟨q1, q2⟩
          refine ⟨?_, q2⟩
          rw [hdl] at hpf ⊢
          rw [absC, if_neg hpf, if_pos (by omega)]
          rw [show t - (k + 1) = 0 by omega, e1, List.append_assoc] at q1
          exact q1
set_option maxHeartbeats 4000000 in
set_option maxRecDepth 100000 in
theorem sc_abstraction {h : xH} {a c : Nat} {l t : List Int} {n : Int} (hp : scP h []) (hX : scX h) (hr1 : rwA h a l) (hr3 : rwA h c (vw n t)) (ht : isTy t) (hn : 0 ≤ n ∧ n ≤ 7) (hl : l.length ≤ 40) : x_Mx mm_Sc_abstraction [.inr (some 1), .inr (some c), .inr (some a)] h (fun r hf => nrow pD 3 87 h ((13 :: (t ++ absC (vw n t) l ([], 1) 0)).take 81) r hf ∧ scP hf [] ∧ scX hf) := by
  refine xmx rfl (nl rfl) ?_
  obtain ⟨q, B, hD⟩ := hX
  have hv9 : ∀ x ∈ vw n t, x ≠ -1 := by
    intro x hx
    unfold vw at hx
    rcases List.mem_cons.mp hx with h | h
    · omega
    · rcases List.mem_cons.mp h with h | h
      · omega
      · have := (isTy_sym ht x h).1; omega
  have h16 := rwA_16 hr1
  have c1 := scP_1 hp
  have hr3' := hr3
  obtain ⟨ra3, ri3, s3, f3, A3, rs3, rc3, rd3, rl3, rf3, rg3⟩ := hr3
  show x_X _ 0 [some (.inr (some 1)), some (.inr (some c)), some (.inr (some a)), none, none] [] _ _
  refine xx (xs_aload_n dm_Sc_abstraction_0 rfl) ?_
  refine xx (xs_bipush dm_Sc_abstraction_1 (by decide)) ?_
  refine xcV (as := [.inl 13]) (rest := []) dm_Sc_abstraction_3 lc_Sc_put lm_Sc_28 li_Sc_put (nr rfl rfl) rfl rfl c1 rfl (nl rfl) (sc_put hp (by unfold ir; omega)) ?_
  rintro _ h1 ⟨rfl, hp1, g1⟩
  show x_X _ 6 [some (.inr (some 1)), some (.inr (some c)), some (.inr (some a)), none, none] [] _ _
  have rc3 := g1.2 _ _ (pP_hi ra3) rc3
  refine xx (xs_aload_n dm_Sc_abstraction_6 rfl) ?_
  refine xx (xs_aload_n dm_Sc_abstraction_7 rfl) ?_
  refine xx (xs_iconst dm_Sc_abstraction_8) ?_
  refine xcV (as := [.inl 2]) (rest := [.inr (some 1)]) dm_Sc_abstraction_9 lc_Ro_typeAt lm_Sc_40 li_Ro_typeAt (nr rfl rfl) rfl rfl rc3 rfl (nl rfl) (ro_typeAt (pre := [10, n]) (post := []) (rwA_p hr3' g1) (by simp [vw]) ht rfl) ?_
  rintro _ h2 ⟨b2, rfl, g2, w2⟩
  show x_X _ 12 [some (.inr (some 1)), some (.inr (some c)), some (.inr (some a)), none, none] [.inr (some b2), .inr (some 1)] _ _
  have gd2 := gr_fd g2
  have hp2 : scP h2 ([] ++ [13]) := scP_gr hp1 g2 (fun e => e) (fun e => e)
  refine xcV (as := [.inr (some b2)]) (rest := []) dm_Sc_abstraction_12 lc_Sc_putRow lm_Sc_36 li_Sc_putRow (nr rfl rfl) rfl rfl (scP_c hp2).choose_spec rfl (nl rfl) (sc_putRow hp2 w2) ?_
  rintro _ h3 ⟨rfl, hp3, g3⟩
  show x_X _ 15 [some (.inr (some 1)), some (.inr (some c)), some (.inr (some a)), none, none] [] _ _
  have G3 : gr pD 1 3 h h3 := gr_d (gr_d (gr_pd g1) gd2 (Nat.le_refl _) (Nat.le_refl _)) (gr_pd g3) (Nat.le_refl _) (Nat.le_refl _)
  have hD3 : scD h3 q B := scD_p (scD_gr (scD_p hD g1) g2 (fun e => e) (fun e => e)) g3
  have c1 := scP_1 hp3
  have c3 := scD_c hD3
  refine xx (xs_aload_n dm_Sc_abstraction_15 rfl) ?_
  refine xx (xs_getf dm_Sc_abstraction_16 lf_Sc_18 c1 rfl) ?_
  refine xcV (as := []) (rest := []) dm_Sc_abstraction_19 lc_De_begin lm_Sc_44 li_De_begin (nr rfl rfl) rfl rfl c3 rfl (nl rfl) (de_begin hD3) ?_
  rintro _ h4 ⟨rfl, hD4, g4⟩
  show x_X _ 22 [some (.inr (some 1)), some (.inr (some c)), some (.inr (some a)), none, none] [] _ _
  refine xx (xs_iconst dm_Sc_abstraction_22) ?_
  refine xx (xs_istore_n dm_Sc_abstraction_23 (by decide)) ?_
  show x_X _ 24 [some (.inr (some 1)), some (.inr (some c)), some (.inr (some a)), some (.inl 0), none] [] _ _
  refine xx (xs_iconst dm_Sc_abstraction_24) ?_
  refine xx (xs_istore dm_Sc_abstraction_25 (by decide)) ?_
  show x_X _ 27 [some (.inr (some 1)), some (.inr (some c)), some (.inr (some a)), some (.inl 0), some (.inl 0)] [] _ _
  have G4 : gr pD 1 3 h h4 := gr_d G3 (gr_dd g4) (Nat.le_refl _) (Nat.le_refl _)
  have := sc_abs_l (C0 := 3) (S0 := 87) (by omega) (by omega) h16 hl hv9 (l.length + 1) 0 0 0 0 h4 ([] ++ [13] ++ t) ([], 1) (by omega) (by omega) rfl rfl (by omega) (scP_d hp3 g4) hD4 (by simp) (rwA_d hr1 G4) (rwA_d hr3' G4) G4
  simpa using this
