/-! the scribe's plain rows -/
theorem scP_c {h : xH} {w : List Int} (hp : scP h w) : ∃ fs, h.1[1]? = some (.inr (.inr (5, fs))) := by
  obtain ⟨pg, p1, c1, -⟩ := hp
  exact ⟨_, c1⟩
theorem pP_hi {i : Nat} (h : 23 ≤ i) : ¬ pP i := fun e => by rcases e with e | e <;> omega
theorem rwA_p {C S : Nat} {h hf : xH} {a : Nat} {l : List Int} (hr : rwA h a l) (hg : gr pP C S h hf) : rwA hf a l := rwA_lo hr hg (fun _ h => pP_hi h)
theorem gr_p {C S C' S' C2 S2 : Nat} {h h1 h2 : xH} (a : gr pP C S h h1) (b : gr pP C' S' h1 h2) (hC : C + C' ≤ C2) (hS : S + S' ≤ S2) : gr pP C2 S2 h h2 := gr_tr a b (fun _ _ e => e) hC hS
theorem gr_len {P : Nat → Prop} {C S n : Nat} {h hf : xH} (hg : gr P C S h hf) (hn : n ≤ h.1.length) : n ≤ hf.1.length := Nat.le_trans hn hg.1.1
theorem rwA_16 {h : xH} {a : Nat} {l : List Int} (hr : rwA h a l) : 23 ≤ h.1.length := by
  obtain ⟨r1, r2, s, f, A, r3, r4, -⟩ := hr
  have := (List.getElem?_eq_some_iff.mp r4).1
  omega
set_option maxHeartbeats 4000000 in
set_option maxRecDepth 100000 in
theorem sc_simpleType {h : xH} {x : Int} (hp : scP h []) (h16 : 23 ≤ h.1.length) (hx : ir x) : x_Mx mm_Sc_simpleType [.inr (some 1), .inl x] h (fun r hf => nrow pP 2 84 h (([x]).take 81) r hf ∧ scP hf []) := by
  refine xmx rfl (nl rfl) ?_
  show x_X _ 0 [some (.inr (some 1)), some (.inl x)] [] _ _
  refine xx (xs_aload_n dm_Sc_simpleType_0 rfl) ?_
  refine xx (xs_iload_n dm_Sc_simpleType_1 rfl) ?_
  refine xcV (as := [.inl x]) (rest := []) dm_Sc_simpleType_2 lc_Sc_put lm_Sc_28 li_Sc_put (nr rfl rfl) rfl rfl (scP_c hp).choose_spec rfl (nl rfl) (sc_put hp hx) ?_
  rintro _ h1 ⟨rfl, hp1, g1⟩
  show x_X _ 5 [some (.inr (some 1)), some (.inl x)] [] _ _
  have k1 : gr pP 0 0 h h1 := gr_p (gr_rf pP h) g1 (Nat.le_refl _) (Nat.le_refl _)
  refine xx (xs_aload_n dm_Sc_simpleType_5 rfl) ?_
  refine xcV (as := []) (rest := []) dm_Sc_simpleType_6 lc_Sc_finishedRow lm_Sc_32 li_Sc_finishedRow (nr rfl rfl) rfl rfl (scP_c hp1).choose_spec rfl (nl rfl) (sc_finishedRow hp1 (gr_len (k1) h16)) ?_
  rintro _ h9 ⟨⟨b9, rfl, g9, w9⟩, p9⟩
  show x_X _ 9 [some (.inr (some 1)), some (.inl x)] [.inr (some b9)] _ _
  exact ⟨_, _, xb_a dm_Sc_simpleType_9 rfl (Or.inl ⟨_, rfl⟩), ⟨b9, rfl, gr_p (k1) g9 (by omega) (by omega), by simpa using w9⟩, p9⟩
set_option maxHeartbeats 4000000 in
set_option maxRecDepth 100000 in
theorem sc_functionType {h : xH} {a b : Nat} {l v : List Int} (hp : scP h []) (ha : rwA h a l) (hb : rwA h b v) : x_Mx mm_Sc_functionType [.inr (some 1), .inr (some a), .inr (some b)] h (fun r hf => nrow pP 2 84 h ((0 :: (l ++ v)).take 81) r hf ∧ scP hf []) := by
  refine xmx rfl (nl rfl) ?_
  show x_X _ 0 [some (.inr (some 1)), some (.inr (some a)), some (.inr (some b))] [] _ _
  refine xx (xs_aload_n dm_Sc_functionType_0 rfl) ?_
  refine xx (xs_iconst dm_Sc_functionType_1) ?_
  refine xcV (as := [.inl 0]) (rest := []) dm_Sc_functionType_2 lc_Sc_put lm_Sc_28 li_Sc_put (nr rfl rfl) rfl rfl (scP_c hp).choose_spec rfl (nl rfl) (sc_put hp (by unfold ir; omega)) ?_
  rintro _ h2 ⟨rfl, hp2, g2⟩
  show x_X _ 5 [some (.inr (some 1)), some (.inr (some a)), some (.inr (some b))] [] _ _
  have k2 : gr pP 0 0 h h2 := gr_p (gr_rf pP h) g2 (Nat.le_refl _) (Nat.le_refl _)
  refine xx (xs_aload_n dm_Sc_functionType_5 rfl) ?_
  refine xx (xs_aload_n dm_Sc_functionType_6 rfl) ?_
  refine xcV (as := [.inr (some a)]) (rest := []) dm_Sc_functionType_7 lc_Sc_putRow lm_Sc_36 li_Sc_putRow (nr rfl rfl) rfl rfl (scP_c hp2).choose_spec rfl (nl rfl) (sc_putRow hp2 (rwA_p ha (k2))) ?_
  rintro _ h3 ⟨rfl, hp3, g3⟩
  show x_X _ 10 [some (.inr (some 1)), some (.inr (some a)), some (.inr (some b))] [] _ _
  have k3 : gr pP 0 0 h h3 := gr_p (k2) g3 (Nat.le_refl _) (Nat.le_refl _)
  refine xx (xs_aload_n dm_Sc_functionType_10 rfl) ?_
  refine xx (xs_aload_n dm_Sc_functionType_11 rfl) ?_
  refine xcV (as := [.inr (some b)]) (rest := []) dm_Sc_functionType_12 lc_Sc_putRow lm_Sc_36 li_Sc_putRow (nr rfl rfl) rfl rfl (scP_c hp3).choose_spec rfl (nl rfl) (sc_putRow hp3 (rwA_p hb (k3))) ?_
  rintro _ h4 ⟨rfl, hp4, g4⟩
  show x_X _ 15 [some (.inr (some 1)), some (.inr (some a)), some (.inr (some b))] [] _ _
  have k4 : gr pP 0 0 h h4 := gr_p (k3) g4 (Nat.le_refl _) (Nat.le_refl _)
  refine xx (xs_aload_n dm_Sc_functionType_15 rfl) ?_
  refine xcV (as := []) (rest := []) dm_Sc_functionType_16 lc_Sc_finishedRow lm_Sc_32 li_Sc_finishedRow (nr rfl rfl) rfl rfl (scP_c hp4).choose_spec rfl (nl rfl) (sc_finishedRow hp4 (gr_len (k4) (rwA_16 ha))) ?_
  rintro _ h9 ⟨⟨b9, rfl, g9, w9⟩, p9⟩
  show x_X _ 19 [some (.inr (some 1)), some (.inr (some a)), some (.inr (some b))] [.inr (some b9)] _ _
  exact ⟨_, _, xb_a dm_Sc_functionType_19 rfl (Or.inl ⟨_, rfl⟩), ⟨b9, rfl, gr_p (k4) g9 (by omega) (by omega), by simpa using w9⟩, p9⟩
set_option maxHeartbeats 4000000 in
set_option maxRecDepth 100000 in
theorem sc_leaf {h : xH} {a : Nat} {l : List Int} {x y : Int} (hp : scP h []) (hx : ir x) (hy : ir y) (ha : rwA h a l) : x_Mx mm_Sc_leaf [.inr (some 1), .inl x, .inl y, .inr (some a)] h (fun r hf => nrow pP 2 84 h ((x :: y :: l).take 81) r hf ∧ scP hf []) := by
  refine xmx rfl (nl rfl) ?_
  show x_X _ 0 [some (.inr (some 1)), some (.inl x), some (.inl y), some (.inr (some a))] [] _ _
  refine xx (xs_aload_n dm_Sc_leaf_0 rfl) ?_
  refine xx (xs_iload_n dm_Sc_leaf_1 rfl) ?_
  refine xcV (as := [.inl x]) (rest := []) dm_Sc_leaf_2 lc_Sc_put lm_Sc_28 li_Sc_put (nr rfl rfl) rfl rfl (scP_c hp).choose_spec rfl (nl rfl) (sc_put hp hx) ?_
  rintro _ h5 ⟨rfl, hp5, g5⟩
  show x_X _ 5 [some (.inr (some 1)), some (.inl x), some (.inl y), some (.inr (some a))] [] _ _
  have k5 : gr pP 0 0 h h5 := gr_p (gr_rf pP h) g5 (Nat.le_refl _) (Nat.le_refl _)
  refine xx (xs_aload_n dm_Sc_leaf_5 rfl) ?_
  refine xx (xs_iload_n dm_Sc_leaf_6 rfl) ?_
  refine xcV (as := [.inl y]) (rest := []) dm_Sc_leaf_7 lc_Sc_put lm_Sc_28 li_Sc_put (nr rfl rfl) rfl rfl (scP_c hp5).choose_spec rfl (nl rfl) (sc_put hp5 hy) ?_
  rintro _ h6 ⟨rfl, hp6, g6⟩
  show x_X _ 10 [some (.inr (some 1)), some (.inl x), some (.inl y), some (.inr (some a))] [] _ _
  have k6 : gr pP 0 0 h h6 := gr_p (k5) g6 (Nat.le_refl _) (Nat.le_refl _)
  refine xx (xs_aload_n dm_Sc_leaf_10 rfl) ?_
  refine xx (xs_aload_n dm_Sc_leaf_11 rfl) ?_
  refine xcV (as := [.inr (some a)]) (rest := []) dm_Sc_leaf_12 lc_Sc_putRow lm_Sc_36 li_Sc_putRow (nr rfl rfl) rfl rfl (scP_c hp6).choose_spec rfl (nl rfl) (sc_putRow hp6 (rwA_p ha (k6))) ?_
  rintro _ h7 ⟨rfl, hp7, g7⟩
  show x_X _ 15 [some (.inr (some 1)), some (.inl x), some (.inl y), some (.inr (some a))] [] _ _
  have k7 : gr pP 0 0 h h7 := gr_p (k6) g7 (Nat.le_refl _) (Nat.le_refl _)
  refine xx (xs_aload_n dm_Sc_leaf_15 rfl) ?_
  refine xcV (as := []) (rest := []) dm_Sc_leaf_16 lc_Sc_finishedRow lm_Sc_32 li_Sc_finishedRow (nr rfl rfl) rfl rfl (scP_c hp7).choose_spec rfl (nl rfl) (sc_finishedRow hp7 (gr_len (k7) (rwA_16 ha))) ?_
  rintro _ h9 ⟨⟨b9, rfl, g9, w9⟩, p9⟩
  show x_X _ 19 [some (.inr (some 1)), some (.inl x), some (.inl y), some (.inr (some a))] [.inr (some b9)] _ _
  exact ⟨_, _, xb_a dm_Sc_leaf_19 rfl (Or.inl ⟨_, rfl⟩), ⟨b9, rfl, gr_p (k7) g9 (by omega) (by omega), by simpa using w9⟩, p9⟩
set_option maxHeartbeats 4000000 in
set_option maxRecDepth 100000 in
theorem sc_application {h : xH} {a b : Nat} {l v : List Int} (hp : scP h []) (ha : rwA h a l) (hb : rwA h b v) : x_Mx mm_Sc_application [.inr (some 1), .inr (some a), .inr (some b)] h (fun r hf => nrow pP 2 84 h ((12 :: (l ++ v)).take 81) r hf ∧ scP hf []) := by
  refine xmx rfl (nl rfl) ?_
  show x_X _ 0 [some (.inr (some 1)), some (.inr (some a)), some (.inr (some b))] [] _ _
  refine xx (xs_aload_n dm_Sc_application_0 rfl) ?_
  refine xx (xs_bipush dm_Sc_application_1 (by decide)) ?_
  refine xcV (as := [.inl 12]) (rest := []) dm_Sc_application_3 lc_Sc_put lm_Sc_28 li_Sc_put (nr rfl rfl) rfl rfl (scP_c hp).choose_spec rfl (nl rfl) (sc_put hp (by unfold ir; omega)) ?_
  rintro _ h8 ⟨rfl, hp8, g8⟩
  show x_X _ 6 [some (.inr (some 1)), some (.inr (some a)), some (.inr (some b))] [] _ _
  have k8 : gr pP 0 0 h h8 := gr_p (gr_rf pP h) g8 (Nat.le_refl _) (Nat.le_refl _)
  refine xx (xs_aload_n dm_Sc_application_6 rfl) ?_
  refine xx (xs_aload_n dm_Sc_application_7 rfl) ?_
  refine xcV (as := [.inr (some a)]) (rest := []) dm_Sc_application_8 lc_Sc_putRow lm_Sc_36 li_Sc_putRow (nr rfl rfl) rfl rfl (scP_c hp8).choose_spec rfl (nl rfl) (sc_putRow hp8 (rwA_p ha (k8))) ?_
  rintro _ h9 ⟨rfl, hp9, g9⟩
  show x_X _ 11 [some (.inr (some 1)), some (.inr (some a)), some (.inr (some b))] [] _ _
  have k9 : gr pP 0 0 h h9 := gr_p (k8) g9 (Nat.le_refl _) (Nat.le_refl _)
  refine xx (xs_aload_n dm_Sc_application_11 rfl) ?_
  refine xx (xs_aload_n dm_Sc_application_12 rfl) ?_
  refine xcV (as := [.inr (some b)]) (rest := []) dm_Sc_application_13 lc_Sc_putRow lm_Sc_36 li_Sc_putRow (nr rfl rfl) rfl rfl (scP_c hp9).choose_spec rfl (nl rfl) (sc_putRow hp9 (rwA_p hb (k9))) ?_
  rintro _ h10 ⟨rfl, hp10, g10⟩
  show x_X _ 16 [some (.inr (some 1)), some (.inr (some a)), some (.inr (some b))] [] _ _
  have k10 : gr pP 0 0 h h10 := gr_p (k9) g10 (Nat.le_refl _) (Nat.le_refl _)
  refine xx (xs_aload_n dm_Sc_application_16 rfl) ?_
  refine xcV (as := []) (rest := []) dm_Sc_application_17 lc_Sc_finishedRow lm_Sc_32 li_Sc_finishedRow (nr rfl rfl) rfl rfl (scP_c hp10).choose_spec rfl (nl rfl) (sc_finishedRow hp10 (gr_len (k10) (rwA_16 ha))) ?_
  rintro _ h9 ⟨⟨b9, rfl, g9, w9⟩, p9⟩
  show x_X _ 20 [some (.inr (some 1)), some (.inr (some a)), some (.inr (some b))] [.inr (some b9)] _ _
  exact ⟨_, _, xb_a dm_Sc_application_20 rfl (Or.inl ⟨_, rfl⟩), ⟨b9, rfl, gr_p (k10) g9 (by omega) (by omega), by simpa using w9⟩, p9⟩
set_option maxHeartbeats 4000000 in
set_option maxRecDepth 100000 in
theorem sc_equation {h : xH} {a b c : Nat} {l v u : List Int} (hp : scP h []) (ha : rwA h a l) (hb : rwA h b v) (hc : rwA h c u) : x_Mx mm_Sc_equation [.inr (some 1), .inr (some a), .inr (some b), .inr (some c)] h (fun r hf => nrow pP 2 84 h ((eqn l v u).take 81) r hf ∧ scP hf []) := by
  refine xmx rfl (nl rfl) ?_
  show x_X _ 0 [some (.inr (some 1)), some (.inr (some a)), some (.inr (some b)), some (.inr (some c))] [] _ _
  refine xx (xs_aload_n dm_Sc_equation_0 rfl) ?_
  refine xx (xs_bipush dm_Sc_equation_1 (by decide)) ?_
  refine xcV (as := [.inl 12]) (rest := []) dm_Sc_equation_3 lc_Sc_put lm_Sc_28 li_Sc_put (nr rfl rfl) rfl rfl (scP_c hp).choose_spec rfl (nl rfl) (sc_put hp (by unfold ir; omega)) ?_
  rintro _ h11 ⟨rfl, hp11, g11⟩
  show x_X _ 6 [some (.inr (some 1)), some (.inr (some a)), some (.inr (some b)), some (.inr (some c))] [] _ _
  have k11 : gr pP 0 0 h h11 := gr_p (gr_rf pP h) g11 (Nat.le_refl _) (Nat.le_refl _)
  refine xx (xs_aload_n dm_Sc_equation_6 rfl) ?_
  refine xx (xs_bipush dm_Sc_equation_7 (by decide)) ?_
  refine xcV (as := [.inl 12]) (rest := []) dm_Sc_equation_9 lc_Sc_put lm_Sc_28 li_Sc_put (nr rfl rfl) rfl rfl (scP_c hp11).choose_spec rfl (nl rfl) (sc_put hp11 (by unfold ir; omega)) ?_
  rintro _ h12 ⟨rfl, hp12, g12⟩
  show x_X _ 12 [some (.inr (some 1)), some (.inr (some a)), some (.inr (some b)), some (.inr (some c))] [] _ _
  have k12 : gr pP 0 0 h h12 := gr_p (k11) g12 (Nat.le_refl _) (Nat.le_refl _)
  refine xx (xs_aload_n dm_Sc_equation_12 rfl) ?_
  refine xx (xs_bipush dm_Sc_equation_13 (by decide)) ?_
  refine xcV (as := [.inl 11]) (rest := []) dm_Sc_equation_15 lc_Sc_put lm_Sc_28 li_Sc_put (nr rfl rfl) rfl rfl (scP_c hp12).choose_spec rfl (nl rfl) (sc_put hp12 (by unfold ir; omega)) ?_
  rintro _ h13 ⟨rfl, hp13, g13⟩
  show x_X _ 18 [some (.inr (some 1)), some (.inr (some a)), some (.inr (some b)), some (.inr (some c))] [] _ _
  have k13 : gr pP 0 0 h h13 := gr_p (k12) g13 (Nat.le_refl _) (Nat.le_refl _)
  refine xx (xs_aload_n dm_Sc_equation_18 rfl) ?_
  refine xx (xs_iconst dm_Sc_equation_19) ?_
  refine xcV (as := [.inl 0]) (rest := []) dm_Sc_equation_20 lc_Sc_put lm_Sc_28 li_Sc_put (nr rfl rfl) rfl rfl (scP_c hp13).choose_spec rfl (nl rfl) (sc_put hp13 (by unfold ir; omega)) ?_
  rintro _ h14 ⟨rfl, hp14, g14⟩
  show x_X _ 23 [some (.inr (some 1)), some (.inr (some a)), some (.inr (some b)), some (.inr (some c))] [] _ _
  have k14 : gr pP 0 0 h h14 := gr_p (k13) g14 (Nat.le_refl _) (Nat.le_refl _)
  refine xx (xs_aload_n dm_Sc_equation_23 rfl) ?_
  refine xx (xs_aload_n dm_Sc_equation_24 rfl) ?_
  refine xcV (as := [.inr (some a)]) (rest := []) dm_Sc_equation_25 lc_Sc_putRow lm_Sc_36 li_Sc_putRow (nr rfl rfl) rfl rfl (scP_c hp14).choose_spec rfl (nl rfl) (sc_putRow hp14 (rwA_p ha (k14))) ?_
  rintro _ h15 ⟨rfl, hp15, g15⟩
  show x_X _ 28 [some (.inr (some 1)), some (.inr (some a)), some (.inr (some b)), some (.inr (some c))] [] _ _
  have k15 : gr pP 0 0 h h15 := gr_p (k14) g15 (Nat.le_refl _) (Nat.le_refl _)
  refine xx (xs_aload_n dm_Sc_equation_28 rfl) ?_
  refine xx (xs_aload_n dm_Sc_equation_29 rfl) ?_
  refine xcV (as := [.inr (some b)]) (rest := []) dm_Sc_equation_30 lc_Sc_putRow lm_Sc_36 li_Sc_putRow (nr rfl rfl) rfl rfl (scP_c hp15).choose_spec rfl (nl rfl) (sc_putRow hp15 (rwA_p hb (k15))) ?_
  rintro _ h16 ⟨rfl, hp16, g16⟩
  show x_X _ 33 [some (.inr (some 1)), some (.inr (some a)), some (.inr (some b)), some (.inr (some c))] [] _ _
  have k16 : gr pP 0 0 h h16 := gr_p (k15) g16 (Nat.le_refl _) (Nat.le_refl _)
  refine xx (xs_aload_n dm_Sc_equation_33 rfl) ?_
  refine xx (xs_aload_n dm_Sc_equation_34 rfl) ?_
  refine xcV (as := [.inr (some c)]) (rest := []) dm_Sc_equation_35 lc_Sc_putRow lm_Sc_36 li_Sc_putRow (nr rfl rfl) rfl rfl (scP_c hp16).choose_spec rfl (nl rfl) (sc_putRow hp16 (rwA_p hc (k16))) ?_
  rintro _ h17 ⟨rfl, hp17, g17⟩
  show x_X _ 38 [some (.inr (some 1)), some (.inr (some a)), some (.inr (some b)), some (.inr (some c))] [] _ _
  have k17 : gr pP 0 0 h h17 := gr_p (k16) g17 (Nat.le_refl _) (Nat.le_refl _)
  refine xx (xs_aload_n dm_Sc_equation_38 rfl) ?_
  unfold eqn
  refine xcV (as := []) (rest := []) dm_Sc_equation_39 lc_Sc_finishedRow lm_Sc_32 li_Sc_finishedRow (nr rfl rfl) rfl rfl (scP_c hp17).choose_spec rfl (nl rfl) (sc_finishedRow hp17 (gr_len (k17) (rwA_16 ha))) ?_
  rintro _ h9 ⟨⟨b9, rfl, g9, w9⟩, p9⟩
  show x_X _ 42 [some (.inr (some 1)), some (.inr (some a)), some (.inr (some b)), some (.inr (some c))] [.inr (some b9)] _ _
  exact ⟨_, _, xb_a dm_Sc_equation_42 rfl (Or.inl ⟨_, rfl⟩), ⟨b9, rfl, gr_p (k17) g9 (by omega) (by omega), by simpa using w9⟩, p9⟩
