/-! an equation's parts -/
theorem rwA_1 {h hf : xH} {a b C S : Nat} {l : List Int} {fs : List xV} {ci : Nat} (hr : rwA h b l) (hg : gr (fun i => i = a) C S h hf) (ha : h.1[a]? = some (.inr (.inr (ci, fs)))) (hci : ¬ ci = 4) : rwA hf b l := by
  obtain ⟨r1, r2, s, f, A, r3, r4, r5, r6⟩ := hr
  refine ⟨r1, r2, s, f, A, r3, hg.2 b _ (fun e => ?_) r4, hg.2 s _ (fun e => ?_) r5, r6⟩
  · rw [e, ha] at r4; simp at r4; exact hci r4.1
  · rw [e, ha] at r5; simp at r5
set_option maxHeartbeats 4000000 in
set_option maxRecDepth 100000 in
theorem eq_init {h : xH} {a m : Nat} {t ty l r : List Int} (ha : h.1[a]? = some (.inr (.inr (1, [.inr none, .inr none, .inr none])))) (hr : rwA h m t) (he : eqP t ty l r) : x_Mx mm_Eq_init [.inr (some a), .inr (some m)] h (fun r9 hf => r9 = none ∧ (∃ b1 b2 b3, hf.1[a]? = some (.inr (.inr (1, [.inr (some b1), .inr (some b2), .inr (some b3)]))) ∧ rwA hf b1 ty ∧ rwA hf b2 l ∧ rwA hf b3 r) ∧ gr (fun i => i = a) 3 9 h hf) := by
  refine xmx rfl (nl rfl) ?_
  obtain ⟨e, tt, tl, tr⟩ := he
  have len0 : t.length = 4 + ty.length + l.length + r.length := by rw [e, eqn_len]
  have hr' := hr
  have hl81 := rwA_len hr
  obtain ⟨-, -, s, f, A, -, rc, -⟩ := hr
  have e1 : t = [12, 12, 11, 0] ++ (ty ++ (l ++ r)) := by rw [e]; simp [eqn]
  have e2 : t = ([12, 12, 11, 0] ++ ty) ++ (l ++ r) := by rw [e1]; simp
  have e3 : t = ([12, 12, 11, 0] ++ ty ++ l) ++ (r ++ []) := by rw [e1]; simp
  have t1 : tyS (t.drop 4) 1 = some (l ++ r) := by rw [e1, List.drop_left' (by rfl), tyS_ty tt, tyS_0]
  have t2 : tmS (t.drop (4 + ty.length)) 1 = r := by
    rw [e2, List.drop_left' (by simp; omega), tmS_tm tl, tmS_0]
    have := isTm_hdT tr []
    simpa using this
  show x_X _ 0 [some (.inr (some a)), some (.inr (some m)), none, none] [] _ _
  refine xx (xs_aload_n dm_Eq_init_0 rfl) ?_
  refine xx (xs_obj dm_Eq_init_1 lo_Eq_1 ⟨nl rfl, nl rfl⟩) ?_
  refine xx (xs_aload_n dm_Eq_init_4 rfl) ?_
  refine xx (xs_iconst dm_Eq_init_5) ?_
  refine xcV (as := [.inl 4]) (rest := []) dm_Eq_init_6 lc_Ro_typeEnd lm_Eq_7 li_Ro_typeEnd (nr rfl rfl) rfl rfl rc rfl (nl rfl) (ro_typeEnd (k := 4) hr' rfl (by omega) t1) ?_
  rintro _ hx9 ⟨rfl, hhx9⟩
  have hhx9 := hhx9.symm
  subst hhx9
  show x_X _ 9 [some (.inr (some a)), some (.inr (some m)), none, none] [.inl ((t.length : Int) - ((l ++ r).length : Int))] _ _
  rw [show (t.length : Int) - ((l ++ r).length : Int) = ((4 + ty.length : Nat) : Int) by simp; omega]
  show x_X _ 9 [some (.inr (some a)), some (.inr (some m)), none, none] [.inl ((4 + ty.length : Nat) : Int)] _ _
  refine xx (xs_istore_n dm_Eq_init_9 (by decide)) ?_
  show x_X _ 10 [some (.inr (some a)), some (.inr (some m)), some (.inl ((4 + ty.length : Nat) : Int)), none] [] _ _
  refine xx (xs_aload_n dm_Eq_init_10 rfl) ?_
  refine xx (xs_iload_n dm_Eq_init_11 rfl) ?_
  refine xcV (as := [.inl ((4 + ty.length : Nat) : Int)]) (rest := []) dm_Eq_init_12 lc_Ro_termEnd lm_Eq_13 li_Ro_termEnd (nr rfl rfl) rfl rfl rc rfl (nl rfl) (ro_termEnd (k := 4 + ty.length) hr' rfl (by omega) t2) ?_
  rintro _ hx9 ⟨rfl, hhx9⟩
  have hhx9 := hhx9.symm
  subst hhx9
  show x_X _ 15 [some (.inr (some a)), some (.inr (some m)), some (.inl ((4 + ty.length : Nat) : Int)), none] [.inl ((t.length : Int) - (r.length : Int))] _ _
  refine xx (xs_istore_n dm_Eq_init_15 (by decide)) ?_
  show x_X _ 16 [some (.inr (some a)), some (.inr (some m)), some (.inl ((4 + ty.length : Nat) : Int)), some (.inl ((t.length : Int) - (r.length : Int)))] [] _ _
  refine xx (xs_aload_n dm_Eq_init_16 rfl) ?_
  refine xx (xs_aload_n dm_Eq_init_17 rfl) ?_
  refine xx (xs_iconst dm_Eq_init_18) ?_
  refine xx (xs_iload_n dm_Eq_init_19 rfl) ?_
  refine xcV (as := [.inl 4, .inl ((4 + ty.length : Nat) : Int)]) (rest := [.inr (some a)]) dm_Eq_init_20 lc_Ro_part lm_Eq_16 li_Ro_part (nr rfl rfl) rfl rfl rc rfl (nl rfl) (ro_part (pre := [12, 12, 11, 0]) (post := l ++ r) hr' e1 (by simp <;> omega) (by simp <;> omega)) ?_
  rintro _ h1 ⟨b1, rfl, g1, w1⟩
  show x_X _ 23 [some (.inr (some a)), some (.inr (some m)), some (.inl ((4 + ty.length : Nat) : Int)), some (.inl ((t.length : Int) - (r.length : Int)))] [.inr (some b1), .inr (some a)] _ _
  have ha := g1.2 _ _ (fun e => e) ha
  have rc := g1.2 _ _ (fun e => e) rc
  refine xx (xs_putf dm_Eq_init_23 lp_Eq_20 ha (nl rfl) (x_ft_o _ _)) ?_
  obtain ⟨k1, hk1⟩ : ∃ hX : xH, hX = (h1.1.set a (.inr (.inr (1, [.inr (some b1), .inr none, .inr none]))), h1.2) := ⟨_, rfl⟩
  show x_X _ 26 [some (.inr (some a)), some (.inr (some m)), some (.inl ((4 + ty.length : Nat) : Int)), some (.inl ((t.length : Int) - (r.length : Int)))] [] (h1.1.set a (.inr (.inr (1, [.inr (some b1), .inr none, .inr none]))), h1.2) _
  rw [← hk1]
  have rc : k1.1[m]? = some (.inr (.inr (4, [.inr (some s), .inl (f : Int), .inl (t.length : Int)]))) := by rw [hk1]; exact set_kp rc ha (by simp)
  have ha_o := ha
  have ha : k1.1[a]? = some (.inr (.inr (1, [.inr (some b1), .inr none, .inr none]))) := by rw [hk1]; exact set_at ha_o
  have q1 : gr (fun i => i = a) 0 0 h1 k1 := hk1 ▸ gr_set
  have s1 := rwA_1 (rwA_lo hr' g1 (fun _ _ e => e)) q1 ha_o (by decide)
  have v1 := rwA_1 w1 q1 ha_o (by decide)
  refine xx (xs_aload_n dm_Eq_init_26 rfl) ?_
  refine xx (xs_aload_n dm_Eq_init_27 rfl) ?_
  refine xx (xs_iload_n dm_Eq_init_28 rfl) ?_
  refine xx (xs_iload_n dm_Eq_init_29 rfl) ?_
  refine xcV (as := [.inl ((4 + ty.length : Nat) : Int), .inl ((t.length : Int) - (r.length : Int))]) (rest := [.inr (some a)]) dm_Eq_init_30 lc_Ro_part lm_Eq_16 li_Ro_part (nr rfl rfl) rfl rfl rc rfl (nl rfl) (ro_part (pre := [12, 12, 11, 0] ++ ty) (post := r) s1 e2 (by simp <;> omega) (by simp <;> omega)) ?_
  rintro _ h2 ⟨b2, rfl, g2, w2⟩
  show x_X _ 33 [some (.inr (some a)), some (.inr (some m)), some (.inl ((4 + ty.length : Nat) : Int)), some (.inl ((t.length : Int) - (r.length : Int)))] [.inr (some b2), .inr (some a)] _ _
  have ha := g2.2 _ _ (fun e => e) ha
  have rc := g2.2 _ _ (fun e => e) rc
  refine xx (xs_putf dm_Eq_init_33 lp_Eq_26 ha (nl rfl) (x_ft_o _ _)) ?_
  obtain ⟨k2, hk2⟩ : ∃ hX : xH, hX = (h2.1.set a (.inr (.inr (1, [.inr (some b1), .inr (some b2), .inr none]))), h2.2) := ⟨_, rfl⟩
  show x_X _ 36 [some (.inr (some a)), some (.inr (some m)), some (.inl ((4 + ty.length : Nat) : Int)), some (.inl ((t.length : Int) - (r.length : Int)))] [] (h2.1.set a (.inr (.inr (1, [.inr (some b1), .inr (some b2), .inr none]))), h2.2) _
  rw [← hk2]
  have rc : k2.1[m]? = some (.inr (.inr (4, [.inr (some s), .inl (f : Int), .inl (t.length : Int)]))) := by rw [hk2]; exact set_kp rc ha (by simp)
  have ha_o := ha
  have ha : k2.1[a]? = some (.inr (.inr (1, [.inr (some b1), .inr (some b2), .inr none]))) := by rw [hk2]; exact set_at ha_o
  have q2 : gr (fun i => i = a) 0 0 h2 k2 := hk2 ▸ gr_set
  have s2 := rwA_1 (rwA_lo s1 g2 (fun _ _ e => e)) q2 ha_o (by decide)
  have v1 := rwA_1 (rwA_lo v1 g2 (fun _ _ e => e)) q2 ha_o (by decide)
  have v2 := rwA_1 w2 q2 ha_o (by decide)
  refine xx (xs_aload_n dm_Eq_init_36 rfl) ?_
  refine xx (xs_aload_n dm_Eq_init_37 rfl) ?_
  refine xx (xs_iload_n dm_Eq_init_38 rfl) ?_
  refine xx (xs_aload_n dm_Eq_init_39 rfl) ?_
  refine xx (xs_getf dm_Eq_init_40 lf_Eq_29 rc rfl) ?_
  refine xcV (as := [.inl ((t.length : Int) - (r.length : Int)), .inl (t.length : Int)]) (rest := [.inr (some a)]) dm_Eq_init_43 lc_Ro_part lm_Eq_16 li_Ro_part (nr rfl rfl) rfl rfl rc rfl (nl rfl) (ro_part (pre := [12, 12, 11, 0] ++ ty ++ l) (post := []) s2 e3 (by simp <;> omega) (by simp <;> omega)) ?_
  rintro _ h3 ⟨b3, rfl, g3, w3⟩
  show x_X _ 46 [some (.inr (some a)), some (.inr (some m)), some (.inl ((4 + ty.length : Nat) : Int)), some (.inl ((t.length : Int) - (r.length : Int)))] [.inr (some b3), .inr (some a)] _ _
  have ha := g3.2 _ _ (fun e => e) ha
  have rc := g3.2 _ _ (fun e => e) rc
  refine xx (xs_putf dm_Eq_init_46 lp_Eq_33 ha (nl rfl) (x_ft_o _ _)) ?_
  obtain ⟨k3, hk3⟩ : ∃ hX : xH, hX = (h3.1.set a (.inr (.inr (1, [.inr (some b1), .inr (some b2), .inr (some b3)]))), h3.2) := ⟨_, rfl⟩
  show x_X _ 49 [some (.inr (some a)), some (.inr (some m)), some (.inl ((4 + ty.length : Nat) : Int)), some (.inl ((t.length : Int) - (r.length : Int)))] [] (h3.1.set a (.inr (.inr (1, [.inr (some b1), .inr (some b2), .inr (some b3)]))), h3.2) _
  rw [← hk3]
  have rc : k3.1[m]? = some (.inr (.inr (4, [.inr (some s), .inl (f : Int), .inl (t.length : Int)]))) := by rw [hk3]; exact set_kp rc ha (by simp)
  have ha_o := ha
  have ha : k3.1[a]? = some (.inr (.inr (1, [.inr (some b1), .inr (some b2), .inr (some b3)]))) := by rw [hk3]; exact set_at ha_o
  have q3 : gr (fun i => i = a) 0 0 h3 k3 := hk3 ▸ gr_set
  have s3 := rwA_1 (rwA_lo s2 g3 (fun _ _ e => e)) q3 ha_o (by decide)
  have v1 := rwA_1 (rwA_lo v1 g3 (fun _ _ e => e)) q3 ha_o (by decide)
  have v2 := rwA_1 (rwA_lo v2 g3 (fun _ _ e => e)) q3 ha_o (by decide)
  have v3 := rwA_1 w3 q3 ha_o (by decide)
  exact ⟨_, _, xb_v dm_Eq_init_49 rfl, rfl, ⟨b1, b2, b3, ha, v1, v2, v3⟩, (gr_tr (gr_tr (gr_tr (gr_tr (gr_tr (gr_tr (gr_rf (fun i => i = a) h) (gr_w g1 (fun _ _ e => e.elim) (Nat.le_refl _) (Nat.le_refl _) : gr (fun i => i = a) 1 3 _ _) (fun _ _ e => e) (C2 := 1) (S2 := 3) (by omega) (by omega)) q1 (fun _ _ e => e) (Nat.le_refl _) (Nat.le_refl _)) (gr_w g2 (fun _ _ e => e.elim) (Nat.le_refl _) (Nat.le_refl _) : gr (fun i => i = a) 1 3 _ _) (fun _ _ e => e) (C2 := 2) (S2 := 6) (by omega) (by omega)) q2 (fun _ _ e => e) (Nat.le_refl _) (Nat.le_refl _)) (gr_w g3 (fun _ _ e => e.elim) (Nat.le_refl _) (Nat.le_refl _) : gr (fun i => i = a) 1 3 _ _) (fun _ _ e => e) (C2 := 3) (S2 := 9) (by omega) (by omega)) q3 (fun _ _ e => e) (Nat.le_refl _) (Nat.le_refl _))⟩
