/-! shelves: add, new; equations -/
set_option maxHeartbeats 4000000 in
set_option maxRecDepth 100000 in
theorem sh_add {h : xH} {a ra N n : Nat} {q : List (Option Nat)} (hs : shF h a ra N n q) {b : Nat} {fs : List xV} (hb : h.1[b]? = some (.inr (.inr (3, fs)))) (hn : n < N) : x_Mx mm_Sh_add [.inr (some a), .inr (some b)] h (fun r hf => r = none ∧ shF hf a ra N (n + 1) (q.set n (some b)) ∧ gr (pH a ra) 0 0 h hf) := by
  refine xmx rfl (nl rfl) ?_
  obtain ⟨c1, c2, y1, y2, y3⟩ := hs
  show x_X _ 0 [some (.inr (some a)), some (.inr (some b))] [] _ _
  refine xx (xs_aload_n dm_Sh_add_0 rfl) ?_
  refine xx (xs_getf dm_Sh_add_1 lf_Sh_15 c1 rfl) ?_
  refine xx (xs_aload_n dm_Sh_add_4 rfl) ?_
  refine xx (xs_getf dm_Sh_add_5 lf_Sh_9 c1 rfl) ?_
  refine xx (xs_alenR dm_Sh_add_8 (by decide) c2) ?_
  refine xx (xs_icmp_ge_f (tgt := 32) dm_Sh_add_9 rfl (by unfold ir; omega) (by unfold ir; omega) (by omega)) ?_
  refine xx (xs_aload_n dm_Sh_add_12 rfl) ?_
  refine xx (xs_getf dm_Sh_add_13 lf_Sh_9 c1 rfl) ?_
  refine xx (xs_aload_n dm_Sh_add_16 rfl) ?_
  refine xx (xs_getf dm_Sh_add_17 lf_Sh_15 c1 rfl) ?_
  refine xx (xs_aload_n dm_Sh_add_20 rfl) ?_
  refine xx (xs_aast dm_Sh_add_21 (by decide) c2 hb rfl (by omega) (by omega) (by omega)) ?_
  obtain ⟨h1, hh1⟩ : ∃ hX : xH, hX = (h.1.set ra (.inr (.inl (1, q.set (n : Int).toNat (some b)))), h.2) := ⟨_, rfl⟩
  show x_X _ 22 [some (.inr (some a)), some (.inr (some b))] [] (h.1.set ra (.inr (.inl (1, q.set (n : Int).toNat (some b)))), h.2) _
  rw [← hh1]
  have c1_o := c1
  have c1 : h1.1[a]? = some (.inr (.inr (6, [.inr (some ra), .inl (n : Int)]))) := by rw [hh1]; exact set_kp c1_o c2 (by simp)
  have c2_o := c2
  have c2 : h1.1[ra]? = some (.inr (.inl (1, q.set (n : Int).toNat (some b)))) := by rw [hh1]; exact set_at c2_o
  refine xx (xs_aload_n dm_Sh_add_22 rfl) ?_
  refine xx (xs_dup dm_Sh_add_23) ?_
  refine xx (xs_getf dm_Sh_add_24 lf_Sh_15 c1 rfl) ?_
  refine xx (xs_iconst dm_Sh_add_27) ?_
  refine xx (xs_iadd dm_Sh_add_28) ?_
  refine xx (xs_putf dm_Sh_add_29 lp_Sh_15 c1 (nl rfl) (x_ft_i _)) ?_
  obtain ⟨h2, hh2⟩ : ∃ hX : xH, hX = (h1.1.set a (.inr (.inr (6, [.inr (some ra), .inl ((n : Int) + 1)]))), h1.2) := ⟨_, rfl⟩
  show x_X _ 32 [some (.inr (some a)), some (.inr (some b))] [] (h1.1.set a (.inr (.inr (6, [.inr (some ra), .inl ((n : Int) + 1)]))), h1.2) _
  rw [← hh2]
  have c2 : h2.1[ra]? = some (.inr (.inl (1, q.set (n : Int).toNat (some b)))) := by rw [hh2]; exact set_kp c2 c1 (by simp)
  have c1_o := c1
  have c1 : h2.1[a]? = some (.inr (.inr (6, [.inr (some ra), .inl ((n : Int) + 1)]))) := by rw [hh2]; exact set_at c1_o
  exact ⟨_, _, xb_v dm_Sh_add_32 rfl, rfl, ⟨by rw [c1]; simp, by rw [c2]; simp, by simp; exact y1, by omega, y3⟩, gr_tr (gr_w (hh1 ▸ gr_set) (fun i _ e => Or.inr e) (Nat.le_refl _) (Nat.le_refl _)) (hh2 ▸ gr_set (h := h1)) (fun i _ e => Or.inl e) (Nat.le_refl _) (Nat.le_refl _)⟩
set_option maxHeartbeats 4000000 in
set_option maxRecDepth 100000 in
theorem sh_init {h : xH} {a N : Nat} {nn : Int} (ha : h.1[a]? = some (.inr (.inr (6, [.inr none, .inl 0])))) (hnn : nn = N) (hN : N ≤ 100) : x_Mx mm_Sh_init [.inr (some a), .inl nn] h (fun r hf => r = none ∧ hf = ((h.1 ++ ([.inr (.inl (1, List.replicate N none))] : List xC)).set a (.inr (.inr (6, [.inr (some h.1.length), .inl 0]))), h.2 + N)) := by
  refine xmx rfl (nl rfl) ?_
  show x_X _ 0 [some (.inr (some a)), some (.inl nn)] [] _ _
  refine xx (xs_aload_n dm_Sh_init_0 rfl) ?_
  refine xx (xs_obj dm_Sh_init_1 lo_Sh_1 ⟨nl rfl, nl rfl⟩) ?_
  refine xx (xs_aload_n dm_Sh_init_4 rfl) ?_
  refine xx (xs_iload_n dm_Sh_init_5 rfl) ?_
  subst hnn
  refine xx (xs_anew dm_Sh_init_6 la_Sh_7 (by omega) (by omega)) ?_
  show x_X _ 9 [some (.inr (some a)), some (.inl (N : Int))] [.inr (some h.1.length), .inr (some a)] (h.1 ++ [.inr (.inl (1, List.replicate N none))], h.2 + N) _
  refine xx (xs_putf dm_Sh_init_9 lp_Sh_9 (push_old ha) (nl rfl) (x_ft_a _ _)) ?_
  exact ⟨_, _, xb_v dm_Sh_init_12 rfl, rfl, rfl⟩
