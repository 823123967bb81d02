/-! hypotheses: new ones, many at once -/
theorem hyF_h {h hf : xH} {a ra C S : Nat} {q : List (Option Nat)} {hs : List (List Int)} {P : Nat → Prop} (hy : hyF h a ra q hs) (hg : gr P C S h hf) (h1 : ¬ P a) (h2 : ¬ P ra) (hP : ∀ i, 23 ≤ i → ¬ P i) : hyF hf a ra q hs := by
  obtain ⟨c1, c2, y5, y6, y7⟩ := hy
  refine ⟨hg.2 a _ h1 c1, hg.2 ra _ h2 c2, y5, y6, fun i l hl => ?_⟩
  obtain ⟨b, b1, b2⟩ := y7 i l hl
  exact ⟨b, b1, rwA_lo b2 hg hP⟩
theorem hyF_A {h : xH} {a ra : Nat} {q : List (Option Nat)} {hs : List (List Int)} (hy : hyF h a ra q hs) (h1 : 14 ≤ a) (h2 : 14 ≤ ra) : hyA h a hs := by
  obtain ⟨c1, c2, y5, y6, y7⟩ := hy
  exact ⟨h1, ra, q, h2, c1, c2, y5, y6, y7⟩
theorem insC_nn {l : List Int} {hs : List (List Int)} (hn : ∀ y ∈ hs, nn1 y) (hl : nn1 l) : ∀ y ∈ insC l hs, nn1 y := by
  unfold insC
  split
  · exact hn
  · intro y hy
    unfold insA at hy
    rcases List.mem_append.mp hy with h | h
    · exact hn y (List.mem_of_mem_take h)
    · rcases List.mem_cons.mp h with h | h
      · rw [h]; exact hl
      · exact hn y (List.mem_of_mem_drop h)
theorem hyA_h {h hf : xH} {a ra o C S : Nat} {q : List (Option Nat)} {hs' hs : List (List Int)} (hy : hyA h o hs) (hf' : hyF h a ra q hs') (hg : gr (pH a ra) C S h hf) (hne : ¬ o = a) (hne2 : ∀ ro fs, h.1[o]? = some (.inr (.inr (2, fs))) → fs[0]? = some (.inr (some ro)) → ¬ ro = ra) : hyA hf o hs := by
  obtain ⟨h1, ro, q', h2, h3, h4, h5, h6, h7⟩ := hy
  obtain ⟨c1, c2, -⟩ := hf'
  have n2 := hne2 ro _ h3 rfl
  refine ⟨h1, ro, q', h2, hg.2 o _ (fun e => ?_) h3, hg.2 ro _ (fun e => ?_) h4, h5, h6, fun i l hl => ?_⟩
  · rcases e with e | e
    · exact hne e
    · rw [e, c2] at h3; simp at h3
  · rcases e with e | e
    · rw [e, c1] at h4; simp at h4
    · exact n2 e
  · obtain ⟨b, b1, b2⟩ := h7 i l hl
    exact ⟨b, b1, rwA_h b2 hg c1 c2⟩
set_option maxHeartbeats 4000000 in
set_option maxRecDepth 100000 in
theorem hy_init {h : xH} {a : Nat} (ha : h.1[a]? = some (.inr (.inr (2, [.inr none, .inl 0])))) : x_Mx mm_Hy_init [.inr (some a)] h (fun r hf => r = none ∧ hyF hf a h.1.length (List.replicate 6 none) [] ∧ gr (fun i => i = a) 1 6 h hf) := by
  refine xmx rfl (nl rfl) ?_
  show x_X _ 0 [some (.inr (some a))] [] _ _
  refine xx (xs_aload_n dm_Hy_init_0 rfl) ?_
  refine xx (xs_obj dm_Hy_init_1 lo_Hy_3 ⟨nl rfl, nl rfl⟩) ?_
  refine xx (xs_aload_n dm_Hy_init_4 rfl) ?_
  refine xx (xs_bipush dm_Hy_init_5 (by decide)) ?_
  refine xx (xs_anew dm_Hy_init_7 la_Hy_9 (by decide) (by decide)) ?_
  obtain ⟨h1, hh1⟩ : ∃ hX : xH, hX = (h.1 ++ [.inr (.inl (0, List.replicate 6 none))], h.2 + 6) := ⟨_, rfl⟩
  show x_X _ 10 [some (.inr (some a))] [.inr (some h.1.length), .inr (some a)] (h.1 ++ [.inr (.inl (0, List.replicate 6 none))], h.2 + 6) _
  rw [← hh1]
  have c1 : h1.1[a]? = some (.inr (.inr (2, [.inr none, .inl 0]))) := by rw [hh1]; exact push_old ha
  have c2 : h1.1[h.1.length]? = some (.inr (.inl (0, List.replicate 6 none))) := by rw [hh1]; exact push_at
  refine xx (xs_putf dm_Hy_init_10 lp_Hy_11 c1 (nl rfl) (x_ft_a _ _)) ?_
  refine ⟨_, _, xb_v dm_Hy_init_13 rfl, rfl, ⟨set_at c1, set_kp c2 c1 (by simp), by simp, by simp, by simp⟩, gr_tr (hh1 ▸ gr_push _) (gr_set (h := h1)) (fun i _ e => e) (Nat.le_refl _) (Nat.le_refl _)⟩
