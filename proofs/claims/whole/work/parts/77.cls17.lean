/-! items -/
def itA (h : xH) (a : Nat) (x : oB) : Prop := 23 ≤ a ∧ ∃ m y : Nat, h.1[a]? = some (.inr (.inr (3, [.inl x.1, .inr (some m), .inr (some y)]))) ∧ rwA h m x.2.1 ∧ hyA h y x.2.2
theorem itA_gr {P : Nat → Prop} {C S : Nat} {h hf : xH} {a : Nat} {x : oB} (hi : itA h a x) (hg : gr P C S h hf) (hP : ∀ i, 14 ≤ i → ¬ P i) : itA hf a x := by
  obtain ⟨h1, m, y, h2, h3, h4⟩ := hi
  exact ⟨h1, m, y, hg.2 a _ (hP a (by omega)) h2, rwA_lo h3 hg (fun i hi => hP i (by omega)), hyA_gr h4 hg hP⟩
set_option maxHeartbeats 4000000 in
set_option maxRecDepth 100000 in
theorem it_init {h : xH} {a m y : Nat} {k : Int} (ha : h.1[a]? = some (.inr (.inr (3, [.inl 0, .inr none, .inr none])))) : x_Mx mm_It_init [.inr (some a), .inl k, .inr (some m), .inr (some y)] h (fun r hf => r = none ∧ hf = (h.1.set a (.inr (.inr (3, [.inl k, .inr (some m), .inr (some y)]))), h.2)) := by
  refine xmx rfl (nl rfl) ?_
  show x_X _ 0 [some (.inr (some a)), some (.inl k), some (.inr (some m)), some (.inr (some y))] [] _ _
  refine xx (xs_aload_n dm_It_init_0 rfl) ?_
  refine xx (xs_obj dm_It_init_1 lo_It_3 ⟨nl rfl, nl rfl⟩) ?_
  refine xx (xs_aload_n dm_It_init_4 rfl) ?_
  refine xx (xs_iload_n dm_It_init_5 rfl) ?_
  refine xx (xs_putf dm_It_init_6 lp_It_9 ha (nl rfl) (x_ft_i _)) ?_
  show x_X _ 9 [some (.inr (some a)), some (.inl k), some (.inr (some m)), some (.inr (some y))] [] (h.1.set a (.inr (.inr (3, [.inl k, .inr none, .inr none]))), h.2) _
  refine xx (xs_aload_n dm_It_init_9 rfl) ?_
  refine xx (xs_aload_n dm_It_init_10 rfl) ?_
  refine xx (xs_putf dm_It_init_11 lp_It_15 (set_at ha) (nl rfl) (x_ft_o _ _)) ?_
  rw [List.set_set]
  show x_X _ 14 [some (.inr (some a)), some (.inl k), some (.inr (some m)), some (.inr (some y))] [] (h.1.set a (.inr (.inr (3, [.inl k, .inr (some m), .inr none]))), h.2) _
  refine xx (xs_aload_n dm_It_init_14 rfl) ?_
  refine xx (xs_aload_n dm_It_init_15 rfl) ?_
  refine xx (xs_putf dm_It_init_16 lp_It_19 (set_at ha) (nl rfl) (x_ft_o _ _)) ?_
  rw [List.set_set]
  show x_X _ 19 [some (.inr (some a)), some (.inl k), some (.inr (some m)), some (.inr (some y))] [] (h.1.set a (.inr (.inr (3, [.inl k, .inr (some m), .inr (some y)]))), h.2) _
  exact ⟨_, _, xb_v dm_It_init_19 rfl, rfl, rfl⟩
set_option maxHeartbeats 4000000 in
set_option maxRecDepth 100000 in
theorem it_small {h : xH} {a m y : Nat} {k : Int} {l : List Int} {hs : List (List Int)} {R : Int} (ha : h.1[a]? = some (.inr (.inr (3, [.inl k, .inr (some m), .inr (some y)])))) (hk : k = 0 ∨ k = 1 ∨ k = 2) (hr : rwA h m l) (hy : hyA h y hs) (hR1 : (l.length ≤ (if k = 0 then 15 else 40) ∧ hs.length ≤ 3 ∧ ∀ v ∈ hs, v.length ≤ 40) → R = 1) (hR0 : ¬ (l.length ≤ (if k = 0 then 15 else 40) ∧ hs.length ≤ 3 ∧ ∀ v ∈ hs, v.length ≤ 40) → R = 0) : x_Mx mm_It_isSmallEnough [.inr (some a)] h (fun r hf => r = some (.inl R) ∧ hf = h) := by
  refine xmx rfl (nl rfl) ?_
  have hl81 := rwA_len hr
  obtain ⟨-, -, s, f, A, -, rc, -⟩ := hr
  have hy' := hy
  obtain ⟨-, ra, q, -, yc, -⟩ := hy
  show x_X _ 0 [some (.inr (some a)), none] [] _ _
  refine xx (xs_aload_n dm_It_isSmallEnough_0 rfl) ?_
  refine xx (xs_getf dm_It_isSmallEnough_1 lf_It_9 ha rfl) ?_
  refine xx_if_ne (tgt := 12) dm_It_isSmallEnough_4 rfl (by unfold ir; omega) (fun hc => ?_) (fun hc => ?_)
  · change x_X _ 12 _ _ _ _
    rw [if_neg hc] at hR1 hR0
    refine xx (xs_bipush dm_It_isSmallEnough_12 (by decide)) ?_
    refine xx (xs_istore_n dm_It_isSmallEnough_14 (by decide)) ?_
    show x_X _ 15 [some (.inr (some a)), some (.inl 40)] [] _ _
    refine xx (xs_aload_n dm_It_isSmallEnough_15 rfl) ?_
    refine xx (xs_getf dm_It_isSmallEnough_16 lf_It_15 ha rfl) ?_
    refine xx (xs_getf dm_It_isSmallEnough_19 lf_It_23 rc rfl) ?_
    refine xx (xs_iload_n dm_It_isSmallEnough_22 rfl) ?_
    refine xx_icmp_gt (tgt := 40) dm_It_isSmallEnough_23 rfl (by unfold ir; omega) (by unfold ir; omega) (fun hc2 => ?_) (fun hc2 => ?_)
    · change x_X _ 40 _ _ _ _
      refine xx (xs_iconst dm_It_isSmallEnough_40) ?_
      exact ⟨_, _, xb_z dm_It_isSmallEnough_41 rfl (by omega), by rw [hR0 (fun h => by have := h.1; omega)], rfl⟩
    · change x_X _ 26 _ _ _ _
      refine xx (xs_aload_n dm_It_isSmallEnough_26 rfl) ?_
      refine xx (xs_getf dm_It_isSmallEnough_27 lf_It_19 ha rfl) ?_
      by_cases hsm : hs.length ≤ 3 ∧ ∀ v ∈ hs, v.length ≤ 40
      · refine xcV (as := []) (rest := []) dm_It_isSmallEnough_30 lc_Hy_areSmallEnough lm_It_28 li_Hy_areSmallEnough (nr rfl rfl) rfl rfl yc rfl (nl rfl) (hy_small (R := 1) hy' (fun _ => rfl) (fun h => absurd hsm h)) ?_
        rintro _ hx9 ⟨rfl, hhx9⟩
        have hhx9 := hhx9.symm
        subst hhx9
        show x_X _ 33 [some (.inr (some a)), some (.inl 40)] [.inl 1] _ _
        refine xx (xs_if_eq_f (tgt := 40) dm_It_isSmallEnough_33 rfl (by unfold ir; omega) (by decide)) ?_
        refine xx (xs_iconst dm_It_isSmallEnough_36) ?_
        refine xx (xs_goto (tgt := 41) dm_It_isSmallEnough_37 rfl) ?_
        exact ⟨_, _, xb_z dm_It_isSmallEnough_41 rfl (by omega), by rw [hR1 ⟨by omega, hsm⟩], rfl⟩
      · refine xcV (as := []) (rest := []) dm_It_isSmallEnough_30 lc_Hy_areSmallEnough lm_It_28 li_Hy_areSmallEnough (nr rfl rfl) rfl rfl yc rfl (nl rfl) (hy_small (R := 0) hy' (fun h => absurd h hsm) (fun _ => rfl)) ?_
        rintro _ hx9 ⟨rfl, hhx9⟩
        have hhx9 := hhx9.symm
        subst hhx9
        show x_X _ 33 [some (.inr (some a)), some (.inl 40)] [.inl 0] _ _
        refine xx (xs_if_eq_t (tgt := 40) dm_It_isSmallEnough_33 rfl (by unfold ir; omega) (by decide)) ?_
        refine xx (xs_iconst dm_It_isSmallEnough_40) ?_
        exact ⟨_, _, xb_z dm_It_isSmallEnough_41 rfl (by omega), by rw [hR0 (fun h => hsm h.2)], rfl⟩
  · change x_X _ 7 _ _ _ _
    rw [if_pos hc] at hR1 hR0
    refine xx (xs_bipush dm_It_isSmallEnough_7 (by decide)) ?_
    refine xx (xs_goto (tgt := 14) dm_It_isSmallEnough_9 rfl) ?_
    refine xx (xs_istore_n dm_It_isSmallEnough_14 (by decide)) ?_
    show x_X _ 15 [some (.inr (some a)), some (.inl 15)] [] _ _
    refine xx (xs_aload_n dm_It_isSmallEnough_15 rfl) ?_
    refine xx (xs_getf dm_It_isSmallEnough_16 lf_It_15 ha rfl) ?_
    refine xx (xs_getf dm_It_isSmallEnough_19 lf_It_23 rc rfl) ?_
    refine xx (xs_iload_n dm_It_isSmallEnough_22 rfl) ?_
    refine xx_icmp_gt (tgt := 40) dm_It_isSmallEnough_23 rfl (by unfold ir; omega) (by unfold ir; omega) (fun hc2 => ?_) (fun hc2 => ?_)
    · change x_X _ 40 _ _ _ _
      refine xx (xs_iconst dm_It_isSmallEnough_40) ?_
      exact ⟨_, _, xb_z dm_It_isSmallEnough_41 rfl (by omega), by rw [hR0 (fun h => by have := h.1; omega)], rfl⟩
    · change x_X _ 26 _ _ _ _
      refine xx (xs_aload_n dm_It_isSmallEnough_26 rfl) ?_
      refine xx (xs_getf dm_It_isSmallEnough_27 lf_It_19 ha rfl) ?_
      by_cases hsm : hs.length ≤ 3 ∧ ∀ v ∈ hs, v.length ≤ 40
      · refine xcV (as := []) (rest := []) dm_It_isSmallEnough_30 lc_Hy_areSmallEnough lm_It_28 li_Hy_areSmallEnough (nr rfl rfl) rfl rfl yc rfl (nl rfl) (hy_small (R := 1) hy' (fun _ => rfl) (fun h => absurd hsm h)) ?_
        rintro _ hx9 ⟨rfl, hhx9⟩
        have hhx9 := hhx9.symm
        subst hhx9
        show x_X _ 33 [some (.inr (some a)), some (.inl 15)] [.inl 1] _ _
        refine xx (xs_if_eq_f (tgt := 40) dm_It_isSmallEnough_33 rfl (by unfold ir; omega) (by decide)) ?_
        refine xx (xs_iconst dm_It_isSmallEnough_36) ?_
        refine xx (xs_goto (tgt := 41) dm_It_isSmallEnough_37 rfl) ?_
        exact ⟨_, _, xb_z dm_It_isSmallEnough_41 rfl (by omega), by rw [hR1 ⟨by omega, hsm⟩], rfl⟩
      · refine xcV (as := []) (rest := []) dm_It_isSmallEnough_30 lc_Hy_areSmallEnough lm_It_28 li_Hy_areSmallEnough (nr rfl rfl) rfl rfl yc rfl (nl rfl) (hy_small (R := 0) hy' (fun h => absurd h hsm) (fun _ => rfl)) ?_
        rintro _ hx9 ⟨rfl, hhx9⟩
        have hhx9 := hhx9.symm
        subst hhx9
        show x_X _ 33 [some (.inr (some a)), some (.inl 15)] [.inl 0] _ _
        refine xx (xs_if_eq_t (tgt := 40) dm_It_isSmallEnough_33 rfl (by unfold ir; omega) (by decide)) ?_
        refine xx (xs_iconst dm_It_isSmallEnough_40) ?_
        exact ⟨_, _, xb_z dm_It_isSmallEnough_41 rfl (by omega), by rw [hR0 (fun h => hsm h.2)], rfl⟩
