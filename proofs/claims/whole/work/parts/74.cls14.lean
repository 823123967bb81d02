/-! hypotheses: add -/
set_option maxHeartbeats 4000000 in
set_option maxRecDepth 100000 in
theorem hy_ins {h : xH} {a ra c : Nat} {q : List (Option Nat)} {hs : List (List Int)} {l : List Int} (hy : hyF h a ra q hs) (hr : rwA h c l) {p : Nat} {o3 : Option xV} (hp : p ≤ hs.length) (h6 : hs.length < 6) : x_X mm_Hy_add 63 [some (.inr (some a)), some (.inr (some c)), some (.inl (p : Int)), o3] [] h (fun r hf => r = none ∧ (∃ q', hyF hf a ra q' (insA l hs p)) ∧ gr (pH a ra) 0 0 h hf) := by
  have hy' := hy
  obtain ⟨c1, c2, y5, y6, y7⟩ := hy
  have hr' := hr
  obtain ⟨ra9, ri9, s9, f9, A9, rs9, rc9, -⟩ := hr'
  have kne : ∀ b fs, h.1[b]? = some (.inr (.inr (4, fs))) → ¬ b = a ∧ ¬ b = ra := fun b fs hb => ⟨fun e => by rw [e, c1] at hb; simp at hb, fun e => by rw [e, c2] at hb; simp at hb⟩
  refine xx (xs_aload_n dm_Hy_add_63 rfl) ?_
  refine xx (xs_getf dm_Hy_add_64 lf_Hy_17 c1 rfl) ?_
  refine xx (xs_istore_n dm_Hy_add_67 (by decide)) ?_
  show x_X _ 68 [some (.inr (some a)), some (.inr (some c)), some (.inl (p : Int)), some (.inl (hs.length : Int))] [] _ _
  refine hy_shift_l (n := hs.length) (q := q) rfl y5 h6 (h0 := h) (fun j hj => ?_) (hs.length - p) _ h q (by omega) (by omega) c1 c2 y5 (fun j _ => rfl) (fun j j1 j2 => by omega) (gr_rf _ _) (fun h1 q1 o3 c1 c2 y5 g1 g2 hg => ?_)
  · obtain ⟨v, hv⟩ : ∃ v, hs[j]? = some v := ⟨_, List.getElem?_eq_getElem (by omega)⟩
    obtain ⟨b, b1, b2⟩ := y7 j v hv
    obtain ⟨-, -, s8, f8, A8, -, rc8, -⟩ := b2
    exact ⟨b, _, b1, rc8, kne b _ rc8⟩
  have kc := kne c _ rc9
  have rcc := hg.2 c _ (fun e => by rcases e with e | e; exact kc.1 e; exact kc.2 e) rc9
  show x_X _ 93 [some (.inr (some a)), some (.inr (some c)), some (.inl (p : Int)), o3] [] _ _
  refine xx (xs_aload_n dm_Hy_add_93 rfl) ?_
  refine xx (xs_getf dm_Hy_add_94 lf_Hy_11 c1 rfl) ?_
  refine xx (xs_iload_n dm_Hy_add_97 rfl) ?_
  refine xx (xs_aload_n dm_Hy_add_98 rfl) ?_
  refine xx (xs_aast dm_Hy_add_99 (by decide) c2 rcc rfl (by omega) (by omega) (by omega)) ?_
  obtain ⟨h2, hh2⟩ : ∃ hX : xH, hX = (h1.1.set ra (.inr (.inl (0, q1.set (p : Int).toNat (some c)))), h1.2) := ⟨_, rfl⟩
  show x_X _ 100 [some (.inr (some a)), some (.inr (some c)), some (.inl (p : Int)), o3] [] (h1.1.set ra (.inr (.inl (0, q1.set (p : Int).toNat (some c)))), h1.2) _
  rw [← hh2]
  have gs2 : gr (fun i => i = ra) 0 0 h1 h2 := hh2 ▸ gr_set
  have c1_1 := c1
  have c1 : h2.1[a]? = some (.inr (.inr (2, [.inr (some ra), .inl (hs.length : Int)]))) := by rw [hh2]; exact set_kp c1_1 c2 (by simp)
  have c2' : h2.1[ra]? = some (.inr (.inl (0, q1.set (p : Int).toNat (some c)))) := by rw [hh2]; exact set_at c2
  refine xx (xs_aload_n dm_Hy_add_100 rfl) ?_
  refine xx (xs_dup dm_Hy_add_101) ?_
  refine xx (xs_getf dm_Hy_add_102 lf_Hy_17 c1 rfl) ?_
  refine xx (xs_iconst dm_Hy_add_105) ?_
  refine xx (xs_iadd dm_Hy_add_106) ?_
  refine xx (xs_putf dm_Hy_add_107 lp_Hy_17 c1 (nl rfl) (x_ft_i _)) ?_
  obtain ⟨h3, hh3⟩ : ∃ hX : xH, hX = (h2.1.set a (.inr (.inr (2, [.inr (some ra), .inl ((hs.length : Int) + 1)]))), h2.2) := ⟨_, rfl⟩
  show x_X _ 110 [some (.inr (some a)), some (.inr (some c)), some (.inl (p : Int)), o3] [] (h2.1.set a (.inr (.inr (2, [.inr (some ra), .inl ((hs.length : Int) + 1)]))), h2.2) _
  rw [← hh3]
  have gs3 : gr (fun i => i = a) 0 0 h2 h3 := hh3 ▸ gr_set
  have c3 : h3.1[a]? = some (.inr (.inr (2, [.inr (some ra), .inl ((hs.length : Int) + 1)]))) := by rw [hh3]; exact set_at c1
  have c4 : h3.1[ra]? = some (.inr (.inl (0, q1.set (p : Int).toNat (some c)))) := by rw [hh3]; exact set_kp c2' c1 (by simp)
  have gall : gr (pH a ra) 0 0 h h3 := gr_tr (gr_tr hg gs2 (fun i _ e => Or.inr e) (Nat.le_refl _) (Nat.le_refl _)) gs3 (fun i _ e => Or.inl e) (Nat.le_refl _) (Nat.le_refl _)
  obtain ⟨d1, d2, -⟩ := hy'
  have hil : (insA l hs p).length = hs.length + 1 := by simp [insA]; omega
  refine ⟨_, _, xb_v dm_Hy_add_110 rfl, rfl, ⟨_, by rw [c3, hil]; simp, c4, by simp; exact y5, by omega, fun i v hv => ?_⟩, gall⟩
  rw [Int.toNat_natCast]
  have hiv := (List.getElem?_eq_some_iff.mp hv).1
  by_cases h1' : i < p
  · have hv' : hs[i]? = some v := by
      unfold insA at hv
      rw [List.getElem?_append_left (by simp; omega), List.getElem?_take_of_lt h1'] at hv
      exact hv
    obtain ⟨b, b1, b2⟩ := y7 i v hv'
    exact ⟨b, by rw [List.getElem?_set_ne (by omega), g1 i (by omega)]; exact b1, rwA_h b2 gall d1 d2⟩
  · by_cases h2' : i = p
    · subst h2'
      have hv' : l = v := by
        unfold insA at hv
        rw [List.getElem?_append_right (by simp; omega)] at hv
        simpa [Nat.min_eq_left hp] using hv
      subst hv'
      exact ⟨c, by rw [List.getElem?_set_self (by omega)], rwA_h hr gall d1 d2⟩
    · have hv' : hs[i - 1]? = some v := by
        unfold insA at hv
        rw [List.getElem?_append_right (by simp; omega), List.length_take, Nat.min_eq_left hp, show i - p = (i - 1 - p) + 1 by omega, List.getElem?_cons_succ, List.getElem?_drop, show p + (i - 1 - p) = i - 1 by omega] at hv
        exact hv
      obtain ⟨b, b1, b2⟩ := y7 (i - 1) v hv'
      exact ⟨b, by rw [List.getElem?_set_ne (by omega), g2 i (by omega) (by omega)]; exact b1, rwA_h b2 gall d1 d2⟩
set_option maxHeartbeats 4000000 in
set_option maxRecDepth 100000 in
theorem hy_add {h : xH} {a ra c : Nat} {q : List (Option Nat)} {hs : List (List Int)} {l : List Int} (hy : hyF h a ra q hs) (hr : rwA h c l) (hn : ∀ y ∈ hs, nn1 y) (hnl : nn1 l) : x_Mx mm_Hy_add [.inr (some a), .inr (some c)] h (fun r hf => r = none ∧ (∃ q', hyF hf a ra q' (insC l hs)) ∧ gr (pH a ra) 0 0 h hf) := by
  refine xmx rfl (nl rfl) ?_
  have hy' := hy
  obtain ⟨c1, c2, y5, y6, y7⟩ := hy
  have hpl := plc_le l hs
  show x_X _ 0 [some (.inr (some a)), some (.inr (some c)), none, none] [] _ _
  refine xx (xs_iconst dm_Hy_add_0) ?_
  refine xx (xs_istore_n dm_Hy_add_1 (by decide)) ?_
  show x_X _ 2 [some (.inr (some a)), some (.inr (some c)), some (.inl 0), none] [] _ _
  refine hy_place_l hy' hr hn ?_ (hs.length + 1) 0 0 (by omega) (by omega) rfl (by simp)
  show x_X _ 29 [some (.inr (some a)), some (.inr (some c)), some (.inl (plc l hs : Int)), none] [] _ _
  refine xx (xs_aload_n dm_Hy_add_29 rfl) ?_
  refine xx (xs_getf dm_Hy_add_30 lf_Hy_17 c1 rfl) ?_
  refine xx (xs_aload_n dm_Hy_add_33 rfl) ?_
  refine xx (xs_getf dm_Hy_add_34 lf_Hy_11 c1 rfl) ?_
  refine xx (xs_alenR dm_Hy_add_37 (by decide) c2) ?_
  refine xx_icmp_ge (tgt := 62) dm_Hy_add_38 rfl (by unfold ir; omega) (by unfold ir; omega) (fun hc => ?_) (fun hc => ?_)
  · change x_X _ 62 _ _ _ _
    have e : insC l hs = hs := by unfold insC; rw [if_pos (Or.inl (by omega))]
    rw [e]
    exact ⟨_, _, xb_v dm_Hy_add_62 rfl, rfl, ⟨q, hy'⟩, gr_rf _ _⟩
  · change x_X _ 41 _ _ _ _
    refine xx (xs_iload_n dm_Hy_add_41 rfl) ?_
    refine xx (xs_aload_n dm_Hy_add_42 rfl) ?_
    refine xx (xs_getf dm_Hy_add_43 lf_Hy_17 c1 rfl) ?_
    refine xx_icmp_ge (tgt := 63) dm_Hy_add_46 rfl (by unfold ir; omega) (by unfold ir; omega) (fun hc2 => ?_) (fun hc2 => ?_)
    · change x_X _ 63 _ _ _ _
      have e : insC l hs = insA l hs (plc l hs) := by unfold insC; rw [if_neg (by rw [not_or]; exact ⟨by omega, by rw [List.getElem?_eq_none (by omega)]; simp⟩)]
      rw [e]
      exact hy_ins hy' hr hpl (by omega)
    · change x_X _ 49 _ _ _ _
      obtain ⟨v, hv⟩ : ∃ v, hs[plc l hs]? = some v := ⟨_, List.getElem?_eq_getElem (by omega)⟩
      obtain ⟨b, b1, b2⟩ := y7 _ v hv
      have b3 := b2
      obtain ⟨ra9, ri9, s9, f9, A9, rs9, rc9, -⟩ := b2
      refine xx (xs_aload_n dm_Hy_add_49 rfl) ?_
      refine xx (xs_getf dm_Hy_add_50 lf_Hy_11 c1 rfl) ?_
      refine xx (xs_iload_n dm_Hy_add_53 rfl) ?_
      refine xx (xs_aald (x := (some b)) dm_Hy_add_54 (by decide) c2 (by omega) (by rw [Int.toNat_natCast]; exact b1) (by omega)) ?_
      refine xx (xs_aload_n dm_Hy_add_55 rfl) ?_
      refine xcV (as := [.inr (some c)]) (rest := []) dm_Hy_add_56 lc_Ro_same lm_Hy_25 li_Ro_same (nr rfl rfl) rfl rfl rc9 rfl (nl rfl) (ro_same b3 hr (nn_ne hnl)) ?_
      rintro _ hx9 ⟨rfl, hhx9⟩
      have hhx9 := hhx9.symm
      subst hhx9
      show x_X _ 59 [some (.inr (some a)), some (.inr (some c)), some (.inl (plc l hs : Int)), none] [.inl (if v = l then 1 else 0)] _ _
      by_cases hvl : v = l
      · rw [if_pos hvl]
        have e : insC l hs = hs := by unfold insC; rw [if_pos (Or.inr (by rw [hv, hvl]))]
        rw [e]
        refine xx (xs_if_eq_f (tgt := 63) dm_Hy_add_59 rfl (by unfold ir; omega) (by decide)) ?_
        exact ⟨_, _, xb_v dm_Hy_add_62 rfl, rfl, ⟨q, hy'⟩, gr_rf _ _⟩
      · rw [if_neg hvl]
        refine xx (xs_if_eq_t (tgt := 63) dm_Hy_add_59 rfl (by unfold ir; omega) (by decide)) ?_
        have e : insC l hs = insA l hs (plc l hs) := by unfold insC; rw [if_neg (by rw [not_or]; exact ⟨by omega, by rw [hv]; simpa using hvl⟩)]
        rw [e]
        exact hy_ins hy' hr hpl (by omega)
