/-! questions, and commands that move items -/
theorem cL_1 {h : xH} {a ra N : Nat} {xs : List oB} (hk : cL h a ra N xs) : h.1[a]? = some (.inr (.inr (6, [.inr (some ra), .inl (xs.length : Int)]))) := by
  obtain ⟨q, q1, q2⟩ := hk
  exact q1.1
set_option maxHeartbeats 4000000 in
set_option maxRecDepth 100000 in
theorem ma_count {h : xH} {M : mS} {l : Int} (hg : gM M) (hm : cM h M) (hl : ir l) : x_Mx mm_Ma_count [.inr (some 0), .inl l] h (fun r hf => r = some (.inl (st_count M l)) ∧ hf = h) := by
  refine xmx rfl (nl rfl) ?_
  have hm0 := hm
  have m1 := hm.1
  have G := gr_rf pS h
  show x_X _ 0 [some (.inr (some 0)), some (.inl l)] [] _ _
  have k6 := cL_1 hm.2.2.1
  have k8 := cL_1 hm.2.2.2.2.1
  have k10 := cL_1 hm.2.2.2.2.2.1
  refine xx (xs_iload_n dm_Ma_count_0 rfl) ?_
  unfold st_count
  by_cases e0 : l = 0
  · subst e0
    show x_X _ 1 [some (.inr (some 0)), some (.inl 0)] [.inl 0] _ _
    refine xx (xs_tableIn (off := 35) (tgt := 36) dm_Ma_count_1 (by unfold ir; omega) (by omega) (by omega) rfl rfl) ?_
    refine xx (xs_aload_n dm_Ma_count_36 rfl) ?_
    refine xx (xs_getf dm_Ma_count_37 lf_Ma_21 m1 rfl) ?_
    refine xx (xs_getf dm_Ma_count_40 lf_Ma_200 k6 rfl) ?_
    exact ⟨_, _, xb_i dm_Ma_count_43 rfl, (by simp), rfl⟩
  by_cases e1 : l = 1
  · subst e1
    show x_X _ 1 [some (.inr (some 0)), some (.inl 1)] [.inl 1] _ _
    refine xx (xs_tableIn (off := 43) (tgt := 44) dm_Ma_count_1 (by unfold ir; omega) (by omega) (by omega) rfl rfl) ?_
    refine xx (xs_aload_n dm_Ma_count_44 rfl) ?_
    refine xx (xs_getf dm_Ma_count_45 lf_Ma_25 m1 rfl) ?_
    refine xx (xs_getf dm_Ma_count_48 lf_Ma_200 k8 rfl) ?_
    exact ⟨_, _, xb_i dm_Ma_count_51 rfl, (by simp), rfl⟩
  by_cases e2 : l = 2
  · subst e2
    show x_X _ 1 [some (.inr (some 0)), some (.inl 2)] [.inl 2] _ _
    refine xx (xs_tableIn (off := 51) (tgt := 52) dm_Ma_count_1 (by unfold ir; omega) (by omega) (by omega) rfl rfl) ?_
    refine xx (xs_aload_n dm_Ma_count_52 rfl) ?_
    refine xx (xs_getf dm_Ma_count_53 lf_Ma_28 m1 rfl) ?_
    refine xx (xs_getf dm_Ma_count_56 lf_Ma_200 k10 rfl) ?_
    exact ⟨_, _, xb_i dm_Ma_count_59 rfl, (by simp), rfl⟩
  by_cases e3 : l = 3
  · subst e3
    show x_X _ 1 [some (.inr (some 0)), some (.inl 3)] [.inl 3] _ _
    refine xx (xs_tableIn (off := 59) (tgt := 60) dm_Ma_count_1 (by unfold ir; omega) (by omega) (by omega) rfl rfl) ?_
    refine xx (xs_aload_n dm_Ma_count_60 rfl) ?_
    refine xx (xs_getf dm_Ma_count_61 lf_Ma_50 m1 rfl) ?_
    exact ⟨_, _, xb_i dm_Ma_count_64 rfl, (by simp), rfl⟩
  by_cases e4 : l = 4
  · subst e4
    show x_X _ 1 [some (.inr (some 0)), some (.inl 4)] [.inl 4] _ _
    refine xx (xs_tableIn (off := 64) (tgt := 65) dm_Ma_count_1 (by unfold ir; omega) (by omega) (by omega) rfl rfl) ?_
    refine xx (xs_aload_n dm_Ma_count_65 rfl) ?_
    refine xx (xs_getf dm_Ma_count_66 lf_Ma_54 m1 rfl) ?_
    exact ⟨_, _, xb_i dm_Ma_count_69 rfl, (by simp), rfl⟩
  refine xx (xs_tableOut (tgt := 70) dm_Ma_count_1 hl (by omega) rfl) ?_
  refine xx (xs_iconst dm_Ma_count_70) ?_
  exact ⟨_, _, xb_i dm_Ma_count_71 rfl, (by rw [if_neg e0, if_neg e1, if_neg e2, if_neg e3, if_neg e4]), rfl⟩
set_option maxHeartbeats 4000000 in
set_option maxRecDepth 100000 in
theorem ma_kind {h : xH} {M : mS} {p : Int} (hg : gM M) (hm : cM h M) (hp : ir p) : x_Mx mm_Ma_kind [.inr (some 0), .inl p] h (fun r hf => r = some (.inl (st_kind M p)) ∧ hf = h) := by
  refine xmx rfl (nl rfl) ?_
  have hm0 := hm
  have m1 := hm.1
  have G := gr_rf pS h
  show x_X _ 0 [some (.inr (some 0)), some (.inl p), none] [] _ _
  refine xx (xs_aload_n dm_Ma_kind_0 rfl) ?_
  refine xx (xs_iload_n dm_Ma_kind_1 rfl) ?_
  refine xcV (as := [.inl p]) (rest := []) dm_Ma_kind_2 lc_Ma_itemAt lm_Ma_201 li_Ma_itemAt (nr rfl rfl) rfl rfl m1 rfl (nl rfl) (ma_itemAt hm hp) ?_
  rintro r9 hx9 ⟨hhx9, hR⟩
  have hhx9 := hhx9.symm
  subst hhx9
  cases hO : ob M p with
  | none =>
    rw [hO] at hR
    have hR' : r9 = some (.inr none) := hR
    subst hR'
    show x_X _ 5 [some (.inr (some 0)), some (.inl p), none] [.inr none] _ _
    refine xx (xs_astore_n dm_Ma_kind_5 (by decide)) ?_
    show x_X _ 6 [some (.inr (some 0)), some (.inl p), some (.inr none)] [] _ _
    refine xx (xs_aload_n dm_Ma_kind_6 rfl) ?_
    refine xx (xs_ifnonnull_f dm_Ma_kind_7) ?_
    refine xx (xs_iconst dm_Ma_kind_10) ?_
    refine xx (xs_goto (tgt := 18) dm_Ma_kind_11 rfl) ?_
    exact ⟨_, _, xb_i dm_Ma_kind_18 rfl, (by unfold st_kind; rw [hO]), rfl⟩
  | some x =>
    rw [hO] at hR
    obtain ⟨b, e9, hb⟩ := hR
    subst e9
    obtain ⟨-, m, y, bc, wm, hy⟩ := hb
    show x_X _ 5 [some (.inr (some 0)), some (.inl p), none] [.inr (some b)] _ _
    refine xx (xs_astore_n dm_Ma_kind_5 (by decide)) ?_
    show x_X _ 6 [some (.inr (some 0)), some (.inl p), some (.inr (some b))] [] _ _
    refine xx (xs_aload_n dm_Ma_kind_6 rfl) ?_
    refine xx (xs_ifnonnull_t (tgt := 14) dm_Ma_kind_7 rfl) ?_
    refine xx (xs_aload_n dm_Ma_kind_14 rfl) ?_
    refine xx (xs_getf dm_Ma_kind_15 lf_Ma_204 bc rfl) ?_
    exact ⟨_, _, xb_i dm_Ma_kind_18 rfl, (by unfold st_kind; rw [hO]), rfl⟩
theorem ob_g {M : mS} {p : Int} {x : oB} (hg : gM M) (h : ob M p = some x) : gO x := by
  unfold ob at h
  split at h
  · exact hg.1 x (List.mem_of_getElem? h)
  split at h
  · exact hg.2.1 _ x h
  split at h
  · exact hg.2.2.1 x (List.mem_of_getElem? h)
  split at h
  · exact hg.2.2.2.1 x (List.mem_of_getElem? h)
  · cases h
theorem hyA_1 {h : xH} {a : Nat} {hs : List (List Int)} (hy : hyA h a hs) : ∃ ra, h.1[a]? = some (.inr (.inr (2, [.inr (some ra), .inl (hs.length : Int)]))) := by
  obtain ⟨r1, s, f, A, r3, -⟩ := hy
  exact ⟨_, r3⟩
theorem rwA_3 {h : xH} {a : Nat} {l : List Int} (hr : rwA h a l) : ∃ s f, h.1[a]? = some (.inr (.inr (4, [s, f, .inl (l.length : Int)]))) := by
  obtain ⟨r1, r2, s, f, A, r3, r4, -⟩ := hr
  exact ⟨_, _, r4⟩
set_option maxHeartbeats 4000000 in
set_option maxRecDepth 100000 in
theorem ma_hyps {h : xH} {M : mS} {p : Int} (hg : gM M) (hm : cM h M) (hp : ir p) : x_Mx mm_Ma_hypotheses [.inr (some 0), .inl p] h (fun r hf => r = some (.inl (st_hyps M p)) ∧ hf = h) := by
  refine xmx rfl (nl rfl) ?_
  have hm0 := hm
  have m1 := hm.1
  have G := gr_rf pS h
  show x_X _ 0 [some (.inr (some 0)), some (.inl p), none] [] _ _
  refine xx (xs_aload_n dm_Ma_hypotheses_0 rfl) ?_
  refine xx (xs_iload_n dm_Ma_hypotheses_1 rfl) ?_
  refine xcV (as := [.inl p]) (rest := []) dm_Ma_hypotheses_2 lc_Ma_itemAt lm_Ma_201 li_Ma_itemAt (nr rfl rfl) rfl rfl m1 rfl (nl rfl) (ma_itemAt hm hp) ?_
  rintro r9 hx9 ⟨hhx9, hR⟩
  have hhx9 := hhx9.symm
  subst hhx9
  cases hO : ob M p with
  | none =>
    rw [hO] at hR
    have hR' : r9 = some (.inr none) := hR
    subst hR'
    show x_X _ 5 [some (.inr (some 0)), some (.inl p), none] [.inr none] _ _
    refine xx (xs_astore_n dm_Ma_hypotheses_5 (by decide)) ?_
    show x_X _ 6 [some (.inr (some 0)), some (.inl p), some (.inr none)] [] _ _
    refine xx (xs_aload_n dm_Ma_hypotheses_6 rfl) ?_
    refine xx (xs_ifnull_t (tgt := 18) dm_Ma_hypotheses_7 rfl) ?_
    refine xx (xs_iconst dm_Ma_hypotheses_18) ?_
    refine xx (xs_goto (tgt := 29) dm_Ma_hypotheses_19 rfl) ?_
    exact ⟨_, _, xb_i dm_Ma_hypotheses_29 rfl, (by unfold st_hyps; rw [hO]), rfl⟩
  | some x =>
    rw [hO] at hR
    obtain ⟨b, e9, hb⟩ := hR
    subst e9
    obtain ⟨-, m, y, bc, wm, hy⟩ := hb
    have gk := gO_k (ob_g hg hO)
    obtain ⟨ra, yc⟩ := hyA_1 hy
    show x_X _ 5 [some (.inr (some 0)), some (.inl p), none] [.inr (some b)] _ _
    refine xx (xs_astore_n dm_Ma_hypotheses_5 (by decide)) ?_
    show x_X _ 6 [some (.inr (some 0)), some (.inl p), some (.inr (some b))] [] _ _
    refine xx (xs_aload_n dm_Ma_hypotheses_6 rfl) ?_
    refine xx (xs_ifnull_f dm_Ma_hypotheses_7) ?_
    refine xx (xs_aload_n dm_Ma_hypotheses_10 rfl) ?_
    refine xx (xs_getf dm_Ma_hypotheses_11 lf_Ma_204 bc rfl) ?_
    refine xx (xs_iconst dm_Ma_hypotheses_14) ?_
    refine xx_icmp_eq (tgt := 22) dm_Ma_hypotheses_15 rfl (by unfold ir; omega) (by unfold ir; omega) (fun hc => ?_) (fun hc => ?_)
    · change x_X _ 22 _ _ _ _
      refine xx (xs_aload_n dm_Ma_hypotheses_22 rfl) ?_
      refine xx (xs_getf dm_Ma_hypotheses_23 lf_Ma_140 bc rfl) ?_
      refine xx (xs_getf dm_Ma_hypotheses_26 lf_Ma_161 yc rfl) ?_
      exact ⟨_, _, xb_i dm_Ma_hypotheses_29 rfl, (by unfold st_hyps; rw [hO]; exact congrArg (fun z => some (Sum.inl z)) (if_pos hc).symm), rfl⟩
    · change x_X _ 18 _ _ _ _
      refine xx (xs_iconst dm_Ma_hypotheses_18) ?_
      refine xx (xs_goto (tgt := 29) dm_Ma_hypotheses_19 rfl) ?_
      exact ⟨_, _, xb_i dm_Ma_hypotheses_29 rfl, (by unfold st_hyps; rw [hO]; exact congrArg (fun z => some (Sum.inl z)) (if_neg hc).symm), rfl⟩
set_option maxHeartbeats 4000000 in
set_option maxRecDepth 100000 in
theorem ma_length {h : xH} {M : mS} {p i : Int} (hg : gM M) (hm : cM h M) (hp : ir p) (hi : ir i) : x_Mx mm_Ma_length [.inr (some 0), .inl p, .inl i] h (fun r hf => r = some (.inl (st_length M p i)) ∧ hf = h) := by
  refine xmx rfl (nl rfl) ?_
  have hm0 := hm
  have m1 := hm.1
  have G := gr_rf pS h
  show x_X _ 0 [some (.inr (some 0)), some (.inl p), some (.inl i), none] [] _ _
  refine xx (xs_aload_n dm_Ma_length_0 rfl) ?_
  refine xx (xs_iload_n dm_Ma_length_1 rfl) ?_
  refine xx (xs_iload_n dm_Ma_length_2 rfl) ?_
  refine xcV (as := [.inl p, .inl i]) (rest := []) dm_Ma_length_3 lc_Ma_partAt lm_Ma_207 li_Ma_partAt (nr rfl rfl) rfl rfl m1 rfl (nl rfl) (ma_partAt hm hp hi) ?_
  rintro r9 hx9 ⟨hhx9, hR⟩
  have hhx9 := hhx9.symm
  subst hhx9
  cases hO : prt M p i with
  | none =>
    rw [hO] at hR
    have hR' : r9 = some (.inr none) := hR
    subst hR'
    show x_X _ 6 [some (.inr (some 0)), some (.inl p), some (.inl i), none] [.inr none] _ _
    refine xx (xs_astore_n dm_Ma_length_6 (by decide)) ?_
    show x_X _ 7 [some (.inr (some 0)), some (.inl p), some (.inl i), some (.inr none)] [] _ _
    refine xx (xs_aload_n dm_Ma_length_7 rfl) ?_
    refine xx (xs_ifnonnull_f dm_Ma_length_8) ?_
    refine xx (xs_iconst dm_Ma_length_11) ?_
    refine xx (xs_goto (tgt := 19) dm_Ma_length_12 rfl) ?_
    exact ⟨_, _, xb_i dm_Ma_length_19 rfl, (by unfold st_length; rw [hO]), rfl⟩
  | some x =>
    rw [hO] at hR
    obtain ⟨b, e9, hb⟩ := hR
    subst e9
    obtain ⟨s, f, bc⟩ := rwA_3 hb
    show x_X _ 6 [some (.inr (some 0)), some (.inl p), some (.inl i), none] [.inr (some b)] _ _
    refine xx (xs_astore_n dm_Ma_length_6 (by decide)) ?_
    show x_X _ 7 [some (.inr (some 0)), some (.inl p), some (.inl i), some (.inr (some b))] [] _ _
    refine xx (xs_aload_n dm_Ma_length_7 rfl) ?_
    refine xx (xs_ifnonnull_t (tgt := 15) dm_Ma_length_8 rfl) ?_
    refine xx (xs_aload_n dm_Ma_length_15 rfl) ?_
    refine xx (xs_getf dm_Ma_length_16 lf_Ma_210 bc rfl) ?_
    exact ⟨_, _, xb_i dm_Ma_length_19 rfl, (by unfold st_length; rw [hO]), rfl⟩
set_option maxHeartbeats 4000000 in
set_option maxRecDepth 100000 in
theorem ma_symbol {h : xH} {M : mS} {p i j : Int} (hg : gM M) (hm : cM h M) (hp : ir p) (hi : ir i) (hj : ir j) : x_Mx mm_Ma_symbol [.inr (some 0), .inl p, .inl i, .inl j] h (fun r hf => r = some (.inl (st_symbol M p i j)) ∧ hf = h) := by
  refine xmx rfl (nl rfl) ?_
  have hm0 := hm
  have m1 := hm.1
  have G := gr_rf pS h
  show x_X _ 0 [some (.inr (some 0)), some (.inl p), some (.inl i), some (.inl j), none] [] _ _
  refine xx (xs_aload_n dm_Ma_symbol_0 rfl) ?_
  refine xx (xs_iload_n dm_Ma_symbol_1 rfl) ?_
  refine xx (xs_iload_n dm_Ma_symbol_2 rfl) ?_
  refine xcV (as := [.inl p, .inl i]) (rest := []) dm_Ma_symbol_3 lc_Ma_partAt lm_Ma_207 li_Ma_partAt (nr rfl rfl) rfl rfl m1 rfl (nl rfl) (ma_partAt hm hp hi) ?_
  rintro r9 hx9 ⟨hhx9, hR⟩
  have hhx9 := hhx9.symm
  subst hhx9
  cases hO : prt M p i with
  | none =>
    rw [hO] at hR
    have hR' : r9 = some (.inr none) := hR
    subst hR'
    show x_X _ 6 [some (.inr (some 0)), some (.inl p), some (.inl i), some (.inl j), none] [.inr none] _ _
    refine xx (xs_astore dm_Ma_symbol_6 (by decide)) ?_
    show x_X _ 8 [some (.inr (some 0)), some (.inl p), some (.inl i), some (.inl j), some (.inr none)] [] _ _
    refine xx (xs_aload dm_Ma_symbol_8 rfl) ?_
    refine xx (xs_ifnonnull_f dm_Ma_symbol_10) ?_
    refine xx (xs_iconst dm_Ma_symbol_13) ?_
    refine xx (xs_goto (tgt := 23) dm_Ma_symbol_14 rfl) ?_
    exact ⟨_, _, xb_i dm_Ma_symbol_23 rfl, (by unfold st_symbol; rw [hO]), rfl⟩
  | some x =>
    rw [hO] at hR
    obtain ⟨b, e9, hb⟩ := hR
    subst e9
    obtain ⟨s, f, bc⟩ := rwA_3 hb
    show x_X _ 6 [some (.inr (some 0)), some (.inl p), some (.inl i), some (.inl j), none] [.inr (some b)] _ _
    refine xx (xs_astore dm_Ma_symbol_6 (by decide)) ?_
    show x_X _ 8 [some (.inr (some 0)), some (.inl p), some (.inl i), some (.inl j), some (.inr (some b))] [] _ _
    refine xx (xs_aload dm_Ma_symbol_8 rfl) ?_
    refine xx (xs_ifnonnull_t (tgt := 17) dm_Ma_symbol_10 rfl) ?_
    refine xx (xs_aload dm_Ma_symbol_17 rfl) ?_
    refine xx (xs_iload_n dm_Ma_symbol_19 rfl) ?_
    refine xcV (as := [.inl j]) (rest := []) dm_Ma_symbol_20 lc_Ro_at lm_Ma_211 li_Ro_at (nr rfl rfl) rfl rfl bc rfl (nl rfl) (ro_at hb hj) ?_
    rintro _ hx9 ⟨rfl, hhx9⟩
    have hhx9 := hhx9.symm
    subst hhx9
    show x_X _ 23 [some (.inr (some 0)), some (.inl p), some (.inl i), some (.inl j), some (.inr (some b))] [.inl (atL x j)] _ _
    have es : st_symbol M p i j = atL x j := by
      unfold st_symbol atL
      rw [hO]
      show (if j < 0 ∨ (x.length : Int) ≤ j then -1 else x.getD j.toNat 0) = _
      by_cases h1 : 0 ≤ j ∧ j < (x.length : Int)
      · rw [if_pos h1, if_neg (by omega)]
      · rw [if_neg h1, if_pos (by omega)]
    rw [es]
    exact ⟨_, _, xb_i dm_Ma_symbol_23 rfl, rfl, rfl⟩
set_option maxHeartbeats 4000000 in
set_option maxRecDepth 100000 in
theorem ma_pop {h : xH} {M : mS} (hg : gM M) (hm : cM h M) : x_Mx mm_Ma_pop [.inr (some 0)] h (clP 250 1500 h (st_pop M)) := by
  refine xmx rfl (nl rfl) ?_
  have hm0 := hm
  have m1 := hm.1
  have G := gr_rf pS h
  show x_X _ 0 [some (.inr (some 0))] [] _ _
  refine xx (xs_aload_n dm_Ma_pop_0 rfl) ?_
  refine xx (xs_getf dm_Ma_pop_1 lf_Ma_21 m1 rfl) ?_
  refine xx (xs_iconst dm_Ma_pop_4) ?_
  refine xcV (as := [.inl 0]) (rest := []) dm_Ma_pop_5 lc_Sh_below lm_Ma_178 li_Sh_below (nr rfl rfl) rfl rfl (cL_c hm.2.2.1).choose_spec rfl (nl rfl) (sh_belowR (p := 0) hm.2.2.1 (by unfold ir; omega)) ?_
  rintro r9 hx9 ⟨hhx9, hR⟩
  have hhx9 := hhx9.symm
  subst hhx9
  rw [if_pos (by omega)] at hR
  cases hx : M.1[0]? with
  | none =>
    have h0 : M.1.length = 0 := by have := List.getElem?_eq_none_iff.mp hx; omega
    rw [show (0 : Int).toNat = 0 from rfl, hx] at hR
    have hR' : r9 = some (.inr none) := hR
    subst hR'
    show x_X _ 8 [some (.inr (some 0))] [.inr none] _ _
    refine xx (xs_ifnonnull_f dm_Ma_pop_8) ?_
    refine xx (xs_iconst dm_Ma_pop_11) ?_
    rw [show st_pop M = (1, M) from if_pos h0]
    exact ⟨_, _, xb_i dm_Ma_pop_12 rfl, rfl, hm, gr_w (gr_SA G) (fun _ _ e => e) (by omega) (by omega)⟩
  | some x =>
    have h0 := (List.getElem?_eq_some_iff.mp hx).1
    rw [show (0 : Int).toNat = 0 from rfl, hx] at hR
    obtain ⟨b, e9, hb⟩ := hR
    subst e9
    have gx := gM_top hg hx
    have hxd : M.1.headD (0, [], []) = x := by cases hM : M.1 with | nil => (rw [hM] at hx; simp at hx) | cons y l => (rw [hM] at hx; simp at hx; rw [hx]; rfl)
    show x_X _ 8 [some (.inr (some 0))] [.inr (some b)] _ _
    rw [show st_pop M = eh M 1 by unfold st_pop eh; rw [if_neg (by omega)]]
    refine xx (xs_ifnonnull_t (tgt := 13) dm_Ma_pop_8 rfl) ?_
    refine xx (xs_aload_n dm_Ma_pop_13 rfl) ?_
    refine xx (xs_iconst dm_Ma_pop_14) ?_
    refine xcV (as := [.inl 1]) (rest := []) dm_Ma_pop_15 lc_Ma_finishEmptyHanded lm_Ma_189 li_Ma_finishEmptyHanded (nr rfl rfl) rfl rfl m1 rfl (nl rfl) (ma_fEH (n := 1) hg hm rfl (by decide)) ?_
    rintro _ h1 ⟨rfl, hmF, gF⟩
    show x_X _ 18 [some (.inr (some 0))] [.inl (eh M 1).1] _ _
    exact ⟨_, _, xb_i dm_Ma_pop_18 rfl, rfl, hmF, gr_w (gr_tr (gr_SA G) gF (fun _ _ e => e) (Nat.le_refl _) (Nat.le_refl _)) (fun _ _ e => e) (by omega) (by omega)⟩
set_option maxHeartbeats 4000000 in
set_option maxRecDepth 100000 in
theorem ma_fetch {h : xH} {M : mS} {k : Int} (hg : gM M) (hm : cM h M) (hk : ir k) : x_Mx mm_Ma_fetch [.inr (some 0), .inl k] h (clP 250 1500 h (st_fetch M k)) := by
  refine xmx rfl (nl rfl) ?_
  have hm0 := hm
  have m1 := hm.1
  have G := gr_rf pS h
  show x_X _ 0 [some (.inr (some 0)), some (.inl k), none] [] _ _
  have g6 := hg.2.2.2.2.2.1
  refine xx (xs_aload_n dm_Ma_fetch_0 rfl) ?_
  refine xx (xs_iload_n dm_Ma_fetch_1 rfl) ?_
  refine xcV (as := [.inl k]) (rest := []) dm_Ma_fetch_2 lc_Ma_keptFor lm_Ma_186 li_Ma_keptFor (nr rfl rfl) rfl rfl m1 rfl (nl rfl) (ma_keptFor hm hk) ?_
  rintro r9 hx9 ⟨hhx9, hR⟩
  have hhx9 := hhx9.symm
  subst hhx9
  by_cases hk6 : 0 ≤ k ∧ k < 6
  · rw [if_pos hk6] at hR
    cases hD : M.2.1 k.toNat with
    | none =>
      rw [hD] at hR
      have hR' : r9 = some (.inr none) := hR
      subst hR'
      show x_X _ 5 [some (.inr (some 0)), some (.inl k), none] [.inr none] _ _
      refine xx (xs_astore_n dm_Ma_fetch_5 (by decide)) ?_
      show x_X _ 6 [some (.inr (some 0)), some (.inl k), some (.inr none)] [] _ _
      refine xx (xs_aload_n dm_Ma_fetch_6 rfl) ?_
      refine xx (xs_ifnonnull_f dm_Ma_fetch_7) ?_
      refine xx (xs_iconst dm_Ma_fetch_10) ?_
      rw [show st_fetch M k = (2, M) by unfold st_fetch; rw [if_neg (by omega), hD]]
      exact ⟨_, _, xb_i dm_Ma_fetch_11 rfl, rfl, hm, gr_w (gr_SA G) (fun _ _ e => e) (by omega) (by omega)⟩
    | some x =>
      rw [hD] at hR
      obtain ⟨b, e9, hb⟩ := hR
      subst e9
      have gx := hg.2.1 _ _ hD
      show x_X _ 5 [some (.inr (some 0)), some (.inl k), none] [.inr (some b)] _ _
      rw [show st_fetch M k = fin9 M 0 x by
        unfold st_fetch fin9
        rw [if_neg (by omega), hD]
        show (if M.1.length = 12 ∨ M.2.2.2.2.2 = 120 then ((4 : Int), M) else (0, pu M 0 x)) = _
        by_cases h12 : M.1.length = 12
        · rw [if_pos (Or.inl h12), ifc_f (fun e => by have := e.2; omega)]
        · rw [ifc_t ⟨smO_g gx, by omega⟩]
          unfold fi
          by_cases h120 : M.2.2.2.2.2 = 120
          · rw [if_pos (Or.inr h120), if_pos (Or.inr h120)]
          · rw [if_neg (by omega), if_neg (fun e => by rcases e with e | e; cases e; exact h120 e)]]
      refine xx (xs_astore_n dm_Ma_fetch_5 (by decide)) ?_
      show x_X _ 6 [some (.inr (some 0)), some (.inl k), some (.inr (some b))] [] _ _
      refine xx (xs_aload_n dm_Ma_fetch_6 rfl) ?_
      refine xx (xs_ifnonnull_t (tgt := 12) dm_Ma_fetch_7 rfl) ?_
      refine xx (xs_aload_n dm_Ma_fetch_12 rfl) ?_
      refine xx (xs_iconst dm_Ma_fetch_13) ?_
      refine xx (xs_aload_n dm_Ma_fetch_14 rfl) ?_
      refine xcV (as := [.inl 0, .inr (some b)]) (rest := []) dm_Ma_fetch_15 lc_Ma_finish lm_Ma_182 li_Ma_finish (nr rfl rfl) rfl rfl m1 rfl (nl rfl) (ma_finish (n := 0) hg hm hb (gO_k gx) rfl (by decide)) ?_
      rintro _ h1 ⟨rfl, hmF, gF⟩
      show x_X _ 18 [some (.inr (some 0)), some (.inl k), some (.inr (some b))] [.inl (fin9 M 0 x).1] _ _
      exact ⟨_, _, xb_i dm_Ma_fetch_18 rfl, rfl, hmF, gr_w (gr_tr (gr_SA G) gF (fun _ _ e => e) (Nat.le_refl _) (Nat.le_refl _)) (fun _ _ e => e) (by omega) (by omega)⟩
  · rw [if_neg hk6] at hR
    have hR' : r9 = some (.inr none) := hR
    subst hR'
    show x_X _ 5 [some (.inr (some 0)), some (.inl k), none] [.inr none] _ _
    refine xx (xs_astore_n dm_Ma_fetch_5 (by decide)) ?_
    show x_X _ 6 [some (.inr (some 0)), some (.inl k), some (.inr none)] [] _ _
    refine xx (xs_aload_n dm_Ma_fetch_6 rfl) ?_
    refine xx (xs_ifnonnull_f dm_Ma_fetch_7) ?_
    refine xx (xs_iconst dm_Ma_fetch_10) ?_
    rw [show st_fetch M k = (2, M) by unfold st_fetch; rw [if_pos (by omega)]]
    exact ⟨_, _, xb_i dm_Ma_fetch_11 rfl, rfl, hm, gr_w (gr_SA G) (fun _ _ e => e) (by omega) (by omega)⟩
set_option maxHeartbeats 4000000 in
set_option maxRecDepth 100000 in
theorem ma_keep {h : xH} {M : mS} {k : Int} (hg : gM M) (hm : cM h M) (hk : ir k) : x_Mx mm_Ma_keep [.inr (some 0), .inl k] h (clP 250 1500 h (st_keep M k)) := by
  refine xmx rfl (nl rfl) ?_
  have hm0 := hm
  have m1 := hm.1
  have G := gr_rf pS h
  show x_X _ 0 [some (.inr (some 0)), some (.inl k), none, none] [] _ _
  have g6 := hg.2.2.2.2.2.1
  refine xx (xs_aload_n dm_Ma_keep_0 rfl) ?_
  refine xx (xs_getf dm_Ma_keep_1 lf_Ma_21 m1 rfl) ?_
  refine xx (xs_iconst dm_Ma_keep_4) ?_
  refine xcV (as := [.inl 0]) (rest := []) dm_Ma_keep_5 lc_Sh_below lm_Ma_178 li_Sh_below (nr rfl rfl) rfl rfl (cL_c hm.2.2.1).choose_spec rfl (nl rfl) (sh_belowR (p := 0) hm.2.2.1 (by unfold ir; omega)) ?_
  rintro r9 hx9 ⟨hhx9, hR⟩
  have hhx9 := hhx9.symm
  subst hhx9
  rw [if_pos (by omega)] at hR
  cases hx : M.1[0]? with
  | none =>
    have h0 : M.1.length = 0 := by have := List.getElem?_eq_none_iff.mp hx; omega
    rw [show (0 : Int).toNat = 0 from rfl, hx] at hR
    have hR' : r9 = some (.inr none) := hR
    subst hR'
    show x_X _ 8 [some (.inr (some 0)), some (.inl k), none, none] [.inr none] _ _
    refine xx (xs_astore_n dm_Ma_keep_8 (by decide)) ?_
    show x_X _ 9 [some (.inr (some 0)), some (.inl k), some (.inr none), none] [] _ _
    refine xx (xs_aload_n dm_Ma_keep_9 rfl) ?_
    refine xx (xs_ifnonnull_f dm_Ma_keep_10) ?_
    refine xx (xs_iconst dm_Ma_keep_13) ?_
    rw [show st_keep M k = (1, M) from if_pos h0]
    exact ⟨_, _, xb_i dm_Ma_keep_14 rfl, rfl, hm, gr_w (gr_SA G) (fun _ _ e => e) (by omega) (by omega)⟩
  | some x =>
    have h0 := (List.getElem?_eq_some_iff.mp hx).1
    rw [show (0 : Int).toNat = 0 from rfl, hx] at hR
    obtain ⟨b, e9, hb⟩ := hR
    subst e9
    have gx := gM_top hg hx
    have hxd : M.1.headD (0, [], []) = x := by cases hM : M.1 with | nil => (rw [hM] at hx; simp at hx) | cons y l => (rw [hM] at hx; simp at hx; rw [hx]; rfl)
    show x_X _ 8 [some (.inr (some 0)), some (.inl k), none, none] [.inr (some b)] _ _
    refine xx (xs_astore_n dm_Ma_keep_8 (by decide)) ?_
    show x_X _ 9 [some (.inr (some 0)), some (.inl k), some (.inr (some b)), none] [] _ _
    refine xx (xs_aload_n dm_Ma_keep_9 rfl) ?_
    refine xx (xs_ifnonnull_t (tgt := 15) dm_Ma_keep_10 rfl) ?_
    refine xx (xs_iload_n dm_Ma_keep_15 rfl) ?_
    refine xx_if_lt (tgt := 25) dm_Ma_keep_16 rfl hk (fun hc => ?_) (fun hc => ?_)
    · change x_X _ 25 _ _ _ _
      refine xx (xs_iconst dm_Ma_keep_25) ?_
      rw [show st_keep M k = (2, M) by unfold st_keep; rw [if_neg (by omega), if_pos (by omega)]]
      exact ⟨_, _, xb_i dm_Ma_keep_26 rfl, rfl, hm, gr_w (gr_SA G) (fun _ _ e => e) (by omega) (by omega)⟩
    · change x_X _ 19 _ _ _ _
      refine xx (xs_iload_n dm_Ma_keep_19 rfl) ?_
      refine xx (xs_bipush dm_Ma_keep_20 (by decide)) ?_
      refine xx_icmp_lt (tgt := 27) dm_Ma_keep_22 rfl hk (by unfold ir; omega) (fun hc2 => ?_) (fun hc2 => ?_)
      · change x_X _ 27 _ _ _ _
        refine xx (xs_aload_n dm_Ma_keep_27 rfl) ?_
        refine xx (xs_iconst dm_Ma_keep_28) ?_
        refine xx (xs_aload_n dm_Ma_keep_29 rfl) ?_
        have hb0 := hb
        obtain ⟨b16, bm, bh, bc, -⟩ := hb
        by_cases h120 : M.2.2.2.2.2 = 120
        · have ef : fin9 M 1 x = (4, M) := by unfold fin9; rw [ifc_t ⟨smO_g gx, by omega⟩]; exact if_pos (Or.inr h120)
          refine xcV (as := [.inl 1, .inr (some b)]) (rest := []) dm_Ma_keep_30 lc_Ma_finish lm_Ma_182 li_Ma_finish (nr rfl rfl) rfl rfl m1 rfl (nl rfl) (ma_finish (n := 1) hg hm hb0 (gO_k gx) rfl (by decide)) ?_
          rintro _ h1 ⟨rfl, hmF, gF⟩
          rw [ef] at hmF ⊢
          show x_X _ 33 [some (.inr (some 0)), some (.inl k), some (.inr (some b)), none] [.inl 4] _ _
          refine xx (xs_istore_n dm_Ma_keep_33 (by decide)) ?_
          show x_X _ 34 [some (.inr (some 0)), some (.inl k), some (.inr (some b)), some (.inl 4)] [] _ _
          refine xx (xs_iload_n dm_Ma_keep_34 rfl) ?_
          refine xx (xs_if_ne_t (tgt := 45) dm_Ma_keep_35 rfl (by unfold ir; omega) (by omega)) ?_
          refine xx (xs_iload_n dm_Ma_keep_45 rfl) ?_
          rw [show st_keep M k = (4, M) by unfold st_keep; rw [if_neg (by omega), if_neg (by omega), if_pos h120]]
          exact ⟨_, _, xb_i dm_Ma_keep_46 rfl, rfl, hmF, gr_w gF (fun _ _ e => e) (by omega) (by omega)⟩
        · have ef : fin9 M 1 x = (0, pu M 1 x) := by unfold fin9; rw [ifc_t ⟨smO_g gx, by omega⟩]; exact if_neg (fun e => by rcases e with e | e; cases e; exact h120 e)
          have epu : pu M 1 x = (M.1, M.2.1, M.2.2.1, M.2.2.2.1, M.2.2.2.2.1, M.2.2.2.2.2 + 1) := by
            unfold pu
            cases hM : M.1 with
            | nil => rw [hM] at hx; simp at hx
            | cons y l => rw [hM] at hx; simp at hx; rw [hx]; rfl
          rw [epu] at ef
          refine xcV (as := [.inl 1, .inr (some b)]) (rest := []) dm_Ma_keep_30 lc_Ma_finish lm_Ma_182 li_Ma_finish (nr rfl rfl) rfl rfl m1 rfl (nl rfl) (ma_finish (n := 1) hg hm hb0 (gO_k gx) rfl (by decide)) ?_
          rintro _ h1 ⟨rfl, hmF, gF⟩
          rw [ef] at hmF ⊢
          show x_X _ 33 [some (.inr (some 0)), some (.inl k), some (.inr (some b)), none] [.inl 0] _ _
          refine xx (xs_istore_n dm_Ma_keep_33 (by decide)) ?_
          show x_X _ 34 [some (.inr (some 0)), some (.inl k), some (.inr (some b)), some (.inl 0)] [] _ _
          refine xx (xs_iload_n dm_Ma_keep_34 rfl) ?_
          refine xx (xs_if_ne_f (tgt := 45) dm_Ma_keep_35 rfl (by unfold ir; omega) (by omega)) ?_
          have hm1 := hmF
          obtain ⟨m1, m2, m3, ⟨q, q1, q2, q3⟩, m5, m6, m7, m8, m9⟩ := hmF
          have bc := ce_A bc gF (by omega)
          have hb1 := itA_A hb0 gF
          rw [show st_keep M k = (0, M.1, dup1 M.2.1 k.toNat x, M.2.2.1, M.2.2.2.1, M.2.2.2.2.1, M.2.2.2.2.2 + 1) by unfold st_keep; rw [if_neg (by omega), if_neg (by omega), if_neg h120, hxd]]
          refine xx (xs_aload_n dm_Ma_keep_38 rfl) ?_
          refine xx (xs_getf dm_Ma_keep_39 lf_Ma_33 m1 rfl) ?_
          refine xx (xs_iload_n dm_Ma_keep_42 rfl) ?_
          refine xx (xs_aload_n dm_Ma_keep_43 rfl) ?_
          refine xx (xs_aast dm_Ma_keep_44 (by decide) q1 bc rfl (by omega) (by omega) (by omega)) ?_
          obtain ⟨h2, hh2⟩ : ∃ hX : xH, hX = (h1.1.set 12 (.inr (.inl (1, q.set k.toNat (some b)))), h1.2) := ⟨_, rfl⟩
          show x_X _ 45 [some (.inr (some 0)), some (.inl k), some (.inr (some b)), some (.inl 0)] [] (h1.1.set 12 (.inr (.inl (1, q.set k.toNat (some b)))), h1.2) _
          rw [← hh2]
          have g2 : gr (fun i => i = 12) 0 0 h1 h2 := by rw [hh2]; exact gr_set
          have q1' : h2.1[12]? = some (.inr (.inl (1, q.set k.toNat (some b)))) := by rw [hh2]; exact set_at q1
          have hd2 : cDi h2 (dup1 M.2.1 k.toNat x) := by
            refine ⟨_, q1', by rw [List.length_set]; exact q2, fun j hj => ?_⟩
            unfold dup1
            by_cases e : j = k.toNat
            · rw [if_pos e, e]
              refine ⟨fun e2 => (by cases e2), fun y hy => ?_⟩
              cases hy
              exact ⟨b, List.getElem?_set_self (by omega), itA_gr hb1 g2 (fun i hi => by omega)⟩
            · rw [if_neg e, List.getElem?_set_ne (fun e2 => e e2.symm)]
              refine ⟨(q3 j hj).1, fun y hy => ?_⟩
              obtain ⟨c, c1, c2⟩ := (q3 j hj).2 y hy
              exact ⟨c, c1, itA_gr c2 g2 (fun i hi => by omega)⟩
          refine xx (xs_iload_n dm_Ma_keep_45 rfl) ?_
          exact ⟨_, _, xb_i dm_Ma_keep_46 rfl, rfl, ⟨g2.2 0 _ (by omega) m1, cP_gr m2 g2 (fun i hi => by omega), cL_gr m3 g2 (by omega) (by omega) (fun i hi => by omega), hd2, cL_gr m5 g2 (by omega) (by omega) (fun i hi => by omega), cL_gr m6 g2 (by omega) (by omega) (fun i hi => by omega), cC_gr m7 g2 (by omega) (fun i hi => by omega), hyA_gr m8 g2 (fun i hi => by omega), Nat.le_trans m9 g2.1.1⟩, gr_w (gr_tr gF g2 (fun i _ e => by show i < 14; omega) (Nat.le_refl _) (Nat.le_refl _)) (fun _ _ e => e) (by omega) (by omega)⟩
      · change x_X _ 25 _ _ _ _
        refine xx (xs_iconst dm_Ma_keep_25) ?_
        rw [show st_keep M k = (2, M) by unfold st_keep; rw [if_neg (by omega), if_pos (by omega)]]
        exact ⟨_, _, xb_i dm_Ma_keep_26 rfl, rfl, hm, gr_w (gr_SA G) (fun _ _ e => e) (by omega) (by omega)⟩
set_option maxHeartbeats 4000000 in
set_option maxRecDepth 100000 in
theorem ma_export {h : xH} {M : mS} (hg : gM M) (hm : cM h M) : x_Mx mm_Ma_export [.inr (some 0)] h (clP 250 1500 h (st_export M)) := by
  refine xmx rfl (nl rfl) ?_
  have hm0 := hm
  have m1 := hm.1
  have G := gr_rf pS h
  show x_X _ 0 [some (.inr (some 0)), none, none] [] _ _
  have g6 := hg.2.2.2.2.2.1
  have g8 := hg.2.2.2.2.2.2.2.1
  refine xx (xs_aload_n dm_Ma_export_0 rfl) ?_
  refine xx (xs_iconst dm_Ma_export_1) ?_
  refine xx (xs_iconst dm_Ma_export_2) ?_
  refine xcV (as := [.inl 0, .inl 2]) (rest := []) dm_Ma_export_3 lc_Ma_itemBelow lm_Ma_118 li_Ma_itemBelow (nr rfl rfl) rfl rfl m1 rfl (nl rfl) (ma_itemB (i := 0) hg hm rfl (by decide) (by decide)) ?_
  rintro r9 hx9 ⟨hhx9, hR⟩
  have hhx9 := hhx9.symm
  subst hhx9
  rcases hR with ⟨k0, a0, x0, hx0, e9, i0⟩ | ⟨k0, e9⟩
  · subst e9
    obtain ⟨ka0, kb0, kc0⟩ := kd_of hx0
    have hl0 := (List.getElem?_eq_some_iff.mp hx0).1
    have gx0 := gM_top hg hx0
    have i0_0 := i0
    obtain ⟨ge0, mm0, y0, c0, w0, hy0⟩ := i0
    have c0_0 := c0
    have w0_0 := w0
    have hy0_0 := hy0
    show x_X _ 6 [some (.inr (some 0)), none, none] [.inr (some a0)] _ _
    refine xx (xs_astore_n dm_Ma_export_6 (by decide)) ?_
    show x_X _ 7 [some (.inr (some 0)), some (.inr (some a0)), none] [] _ _
    refine xx (xs_aload_n dm_Ma_export_7 rfl) ?_
    refine xx (xs_ifnonnull_t (tgt := 13) dm_Ma_export_8 rfl) ?_
    refine xx (xs_aload_n dm_Ma_export_13 rfl) ?_
    refine xx (xs_getf dm_Ma_export_14 lf_Ma_28 m1 rfl) ?_
    have m6 := hm.2.2.2.2.2.1
    obtain ⟨q, q1, q2⟩ := m6
    refine xcV (as := []) (rest := []) dm_Ma_export_17 lc_Sh_isFull lm_Ma_193 li_Sh_isFull (nr rfl rfl) rfl rfl q1.1 rfl (nl rfl) (sh_isFull q1) ?_
    rintro _ hx9 ⟨rfl, hhx9⟩
    have hhx9 := hhx9.symm
    subst hhx9
    show x_X _ 20 [some (.inr (some 0)), some (.inr (some a0)), none] [.inl (if M.2.2.2.1.length = 5 then 1 else 0)] _ _
    by_cases h5 : M.2.2.2.1.length = 5
    · rw [if_pos h5]
      show x_X _ 20 [some (.inr (some 0)), some (.inr (some a0)), none] [.inl 1] _ _
      refine xx (xs_if_eq_f (tgt := 25) dm_Ma_export_20 rfl (by unfold ir; omega) (by omega)) ?_
      refine xx (xs_iconst dm_Ma_export_23) ?_
      rw [show st_export M = (4, M) by unfold st_export; rw [if_neg (fun e => e k0), if_pos (Or.inl h5)]]
      exact ⟨_, _, xb_i dm_Ma_export_24 rfl, rfl, hm, gr_w (gr_SA G) (fun _ _ e => e) (by omega) (by omega)⟩
    have hxd : M.1.headD (0, [], []) = x0 := by cases hM : M.1 with | nil => (rw [hM] at hx0; simp at hx0) | cons y l => (rw [hM] at hx0; simp at hx0; rw [hx0]; rfl)
    · rw [if_neg h5]
      show x_X _ 20 [some (.inr (some 0)), some (.inr (some a0)), none] [.inl 0] _ _
      refine xx (xs_if_eq_t (tgt := 25) dm_Ma_export_20 rfl (by unfold ir; omega) (by omega)) ?_
      refine xx (xs_aload_n dm_Ma_export_25 rfl) ?_
      refine xx (xs_iconst dm_Ma_export_26) ?_
      by_cases h120 : M.2.2.2.2.2 = 120
      · have ef : eh M 1 = (4, M) := if_pos h120
        refine xcV (as := [.inl 1]) (rest := []) dm_Ma_export_27 lc_Ma_finishEmptyHanded lm_Ma_189 li_Ma_finishEmptyHanded (nr rfl rfl) rfl rfl m1 rfl (nl rfl) (ma_fEH (n := 1) hg hm rfl (by decide)) ?_
        rintro _ h1 ⟨rfl, hmF, gF⟩
        rw [ef] at hmF ⊢
        show x_X _ 30 [some (.inr (some 0)), some (.inr (some a0)), none] [.inl 4] _ _
        refine xx (xs_istore_n dm_Ma_export_30 (by decide)) ?_
        show x_X _ 31 [some (.inr (some 0)), some (.inr (some a0)), some (.inl 4)] [] _ _
        refine xx (xs_iload_n dm_Ma_export_31 rfl) ?_
        refine xx (xs_if_ne_t (tgt := 43) dm_Ma_export_32 rfl (by unfold ir; omega) (by omega)) ?_
        refine xx (xs_iload_n dm_Ma_export_43 rfl) ?_
        rw [show st_export M = (4, M) by unfold st_export; rw [if_neg (fun e => e k0), if_pos (Or.inr h120)]]
        exact ⟨_, _, xb_i dm_Ma_export_44 rfl, rfl, hmF, gr_w gF (fun _ _ e => e) (by omega) (by omega)⟩
      · have ef : eh M 1 = (0, M.1.drop 1, M.2.1, M.2.2.1, M.2.2.2.1, M.2.2.2.2.1, M.2.2.2.2.2 + 1) := if_neg h120
        refine xcV (as := [.inl 1]) (rest := []) dm_Ma_export_27 lc_Ma_finishEmptyHanded lm_Ma_189 li_Ma_finishEmptyHanded (nr rfl rfl) rfl rfl m1 rfl (nl rfl) (ma_fEH (n := 1) hg hm rfl (by decide)) ?_
        rintro _ h1 ⟨rfl, hmF, gF⟩
        rw [ef] at hmF ⊢
        show x_X _ 30 [some (.inr (some 0)), some (.inr (some a0)), none] [.inl 0] _ _
        refine xx (xs_istore_n dm_Ma_export_30 (by decide)) ?_
        show x_X _ 31 [some (.inr (some 0)), some (.inr (some a0)), some (.inl 0)] [] _ _
        refine xx (xs_iload_n dm_Ma_export_31 rfl) ?_
        refine xx (xs_if_ne_f (tgt := 43) dm_Ma_export_32 rfl (by unfold ir; omega) (by omega)) ?_
        obtain ⟨m1, m2, m3, m4, m5, m6, m7, m8, m9⟩ := hmF
        obtain ⟨q, q1, q2⟩ := m6
        have c0 := ce_A c0_0 gF (by omega)
        have hi1 := itA_A i0_0 gF
        rw [show st_export M = (0, M.1.drop 1, M.2.1, M.2.2.1, M.2.2.2.1 ++ [x0], M.2.2.2.2.1, M.2.2.2.2.2 + 1) by unfold st_export; rw [if_neg (fun e => e k0), if_neg (by omega), hxd]]
        refine xx (xs_aload_n dm_Ma_export_35 rfl) ?_
        refine xx (xs_getf dm_Ma_export_36 lf_Ma_28 m1 rfl) ?_
        refine xx (xs_aload_n dm_Ma_export_39 rfl) ?_
        refine xcV (as := [.inr (some a0)]) (rest := []) dm_Ma_export_40 lc_Sh_add lm_Ma_197 li_Sh_add (nr rfl rfl) rfl rfl q1.1 rfl (nl rfl) (sh_add q1 c0 (by show M.2.2.2.1.length < 5; omega)) ?_
        rintro _ h2 ⟨rfl, s2, g2⟩
        show x_X _ 43 [some (.inr (some 0)), some (.inr (some a0)), some (.inl 0)] [] _ _
        refine xx (xs_iload_n dm_Ma_export_43 rfl) ?_
        exact ⟨_, _, xb_i dm_Ma_export_44 rfl, rfl, ⟨g2.2 0 _ (by omega) m1, cP_gr m2 g2 (fun i hi => by omega), cL_gr m3 g2 (by omega) (by omega) (fun i hi => by omega), cDi_gr m4 g2 (by omega) (fun i hi => by omega), cL_gr m5 g2 (by omega) (by omega) (fun i hi => by omega), cL_add s2 (by rw [q1.2.2.1]; show M.2.2.2.1.length < 5; omega) q2 hi1 g2 (fun i hi => by omega), cC_gr m7 g2 (by omega) (fun i hi => by omega), hyA_gr m8 g2 (fun i hi => by omega), Nat.le_trans m9 g2.1.1⟩, gr_w (gr_tr gF g2 (fun i _ e => by show i < 14; omega) (Nat.le_refl _) (Nat.le_refl _)) (fun _ _ e => e) (by omega) (by omega)⟩
  · subst e9
    show x_X _ 6 [some (.inr (some 0)), none, none] [.inr none] _ _
    refine xx (xs_astore_n dm_Ma_export_6 (by decide)) ?_
    show x_X _ 7 [some (.inr (some 0)), some (.inr none), none] [] _ _
    refine xx (xs_aload_n dm_Ma_export_7 rfl) ?_
    refine xx (xs_ifnonnull_f dm_Ma_export_8) ?_
    refine xx (xs_iconst dm_Ma_export_11) ?_
    rw [show st_export M = (1, M) from if_pos k0]
    exact ⟨_, _, xb_i dm_Ma_export_12 rfl, rfl, hm, gr_w (gr_SA G) (fun _ _ e => e) (by omega) (by omega)⟩
