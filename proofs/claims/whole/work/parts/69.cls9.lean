/-! the type of a leaf -/
def aps : List Int → Nat → List Int → Prop
  | b, 0, r => b = r
  | b, n + 1, r => ∃ c b', isTy c ∧ isTy b' ∧ b = 0 :: (c ++ b') ∧ aps b' n r
/-- the binders' rows -/
def scB (h : xH) (G : List (List Int)) : Prop := ∃ bi : List (Option Nat), bi.length = 40 ∧ h.1[5]? = some (.inr (.inl (0, bi))) ∧ ∀ (d : Nat) (c : List Int), G[d]? = some c → ∃ b, bi[G.length - 1 - d]? = some (some b) ∧ rwA h b c
theorem scB_gr {P : Nat → Prop} {C S : Nat} {h hf : xH} {G : List (List Int)} (hd : scB h G) (hg : gr P C S h hf) (h5 : ¬ P 5) (hP : ∀ i, 23 ≤ i → ¬ P i) : scB hf G := by
  obtain ⟨bi, a1, a2, a3⟩ := hd
  refine ⟨bi, a1, hg.2 5 _ h5 a2, fun d c hc => ?_⟩
  obtain ⟨b, b1, b2⟩ := a3 d c hc
  exact ⟨b, b1, rwA_lo b2 hg hP⟩
theorem scB_p {C S : Nat} {h hf : xH} {G : List (List Int)} (hd : scB h G) (hg : gr pP C S h hf) : scB hf G := scB_gr hd hg (fun e => by rcases e with e | e <;> omega) (fun _ h => pP_hi h)
theorem gr_fp {C S : Nat} {h h1 : xH} (a : gr (fun _ => False) C S h h1) : gr pP C S h h1 := gr_w a (fun _ _ e => e.elim) (Nat.le_refl _) (Nat.le_refl _)
theorem scP_f {C S : Nat} {h hf : xH} {w : List Int} (hp : scP h w) (hg : gr (fun _ => False) C S h hf) : scP hf w := scP_gr hp hg (fun e => e) (fun e => e)
set_option maxHeartbeats 4000000 in
set_option maxRecDepth 100000 in
theorem sc_putEqual2 {h : xH} {a : Nat} {w l : List Int} (hp : scP h w) (hr : rwA h a l) : x_Mx mm_Sc_putEqualType [.inr (some 1), .inr (some a), .inl 2] h (fun r hf => r = none ∧ scP hf (w ++ eqT l 2) ∧ gr pP 0 0 h hf) := by
  refine xmx rfl (nl rfl) ?_
  show x_X _ 0 [some (.inr (some 1)), some (.inr (some a)), some (.inl 2), none] [] _ _
  refine xx (xs_iload_n dm_Sc_putEqualType_0 rfl) ?_
  refine xx (xs_istore_n dm_Sc_putEqualType_1 (by decide)) ?_
  show x_X _ 2 [some (.inr (some 1)), some (.inr (some a)), some (.inl 2), some (.inl 2)] [] _ _
  refine xx (xs_iload_n dm_Sc_putEqualType_2 rfl) ?_
  refine xx (xs_iconst dm_Sc_putEqualType_3) ?_
  refine xx (xs_icmp_ge_t (tgt := 23) dm_Sc_putEqualType_4 rfl (by unfold ir; omega) (by unfold ir; omega) (by omega)) ?_
  refine xx (xs_aload_n dm_Sc_putEqualType_23 rfl) ?_
  refine xx (xs_iconst dm_Sc_putEqualType_24) ?_
  refine xcV (as := [.inl 1]) (rest := []) dm_Sc_putEqualType_25 lc_Sc_put lm_Sc_28 li_Sc_put (nr rfl rfl) rfl rfl (scP_c hp).choose_spec rfl (nl rfl) (sc_put hp (by unfold ir; omega)) ?_
  rintro _ h1 ⟨rfl, hp1, g1⟩
  show x_X _ 28 [some (.inr (some 1)), some (.inr (some a)), some (.inl 2), some (.inl 2)] [] _ _
  have k1 : gr pP 0 0 h h1 := gr_p (gr_rf pP h) g1 (Nat.le_refl _) (Nat.le_refl _)
  exact ⟨_, _, xb_v dm_Sc_putEqualType_28 rfl, rfl, by simpa [eqT] using hp1, k1⟩
set_option maxHeartbeats 4000000 in
set_option maxRecDepth 100000 in
theorem sc_putEqual1 {h : xH} {a : Nat} {w l : List Int} (hp : scP h w) (hr : rwA h a l) : x_Mx mm_Sc_putEqualType [.inr (some 1), .inr (some a), .inl 1] h (fun r hf => r = none ∧ scP hf (w ++ eqT l 1) ∧ gr pP 0 0 h hf) := by
  refine xmx rfl (nl rfl) ?_
  show x_X _ 0 [some (.inr (some 1)), some (.inr (some a)), some (.inl 1), none] [] _ _
  refine xx (xs_iload_n dm_Sc_putEqualType_0 rfl) ?_
  refine xx (xs_istore_n dm_Sc_putEqualType_1 (by decide)) ?_
  show x_X _ 2 [some (.inr (some 1)), some (.inr (some a)), some (.inl 1), some (.inl 1)] [] _ _
  refine xx (xs_iload_n dm_Sc_putEqualType_2 rfl) ?_
  refine xx (xs_iconst dm_Sc_putEqualType_3) ?_
  refine xx (xs_icmp_ge_f (tgt := 23) dm_Sc_putEqualType_4 rfl (by unfold ir; omega) (by unfold ir; omega) (by omega)) ?_
  refine xx (xs_aload_n dm_Sc_putEqualType_7 rfl) ?_
  refine xx (xs_iconst dm_Sc_putEqualType_8) ?_
  refine xcV (as := [.inl 0]) (rest := []) dm_Sc_putEqualType_9 lc_Sc_put lm_Sc_28 li_Sc_put (nr rfl rfl) rfl rfl (scP_c hp).choose_spec rfl (nl rfl) (sc_put hp (by unfold ir; omega)) ?_
  rintro _ h1 ⟨rfl, hp1, g1⟩
  show x_X _ 12 [some (.inr (some 1)), some (.inr (some a)), some (.inl 1), some (.inl 1)] [] _ _
  have k1 : gr pP 0 0 h h1 := gr_p (gr_rf pP h) g1 (Nat.le_refl _) (Nat.le_refl _)
  refine xx (xs_aload_n dm_Sc_putEqualType_12 rfl) ?_
  refine xx (xs_aload_n dm_Sc_putEqualType_13 rfl) ?_
  refine xcV (as := [.inr (some a)]) (rest := []) dm_Sc_putEqualType_14 lc_Sc_putRow lm_Sc_36 li_Sc_putRow (nr rfl rfl) rfl rfl (scP_c hp1).choose_spec rfl (nl rfl) (sc_putRow hp1 (rwA_p hr (k1))) ?_
  rintro _ h2 ⟨rfl, hp2, g2⟩
  show x_X _ 17 [some (.inr (some 1)), some (.inr (some a)), some (.inl 1), some (.inl 1)] [] _ _
  have k2 : gr pP 0 0 h h2 := gr_p (k1) g2 (Nat.le_refl _) (Nat.le_refl _)
  refine xx (xs_iinc dm_Sc_putEqualType_17 rfl (by decide)) ?_
  show x_X _ 20 [some (.inr (some 1)), some (.inr (some a)), some (.inl 1), some (.inl (1 + 1))] [] _ _
  refine xx (xs_goto (tgt := 2) dm_Sc_putEqualType_20 rfl) ?_
  refine xx (xs_iload_n dm_Sc_putEqualType_2 rfl) ?_
  refine xx (xs_iconst dm_Sc_putEqualType_3) ?_
  refine xx (xs_icmp_ge_t (tgt := 23) dm_Sc_putEqualType_4 rfl (by unfold ir; omega) (by unfold ir; omega) (by omega)) ?_
  refine xx (xs_aload_n dm_Sc_putEqualType_23 rfl) ?_
  refine xx (xs_iconst dm_Sc_putEqualType_24) ?_
  refine xcV (as := [.inl 1]) (rest := []) dm_Sc_putEqualType_25 lc_Sc_put lm_Sc_28 li_Sc_put (nr rfl rfl) rfl rfl (scP_c hp2).choose_spec rfl (nl rfl) (sc_put hp2 (by unfold ir; omega)) ?_
  rintro _ h3 ⟨rfl, hp3, g3⟩
  show x_X _ 28 [some (.inr (some 1)), some (.inr (some a)), some (.inl 1), some (.inl (1 + 1))] [] _ _
  have k3 : gr pP 0 0 h h3 := gr_p (k2) g3 (Nat.le_refl _) (Nat.le_refl _)
  exact ⟨_, _, xb_v dm_Sc_putEqualType_28 rfl, rfl, by simpa [eqT] using hp3, k3⟩
set_option maxHeartbeats 4000000 in
set_option maxRecDepth 100000 in
theorem sc_putEqual0 {h : xH} {a : Nat} {w l : List Int} (hp : scP h w) (hr : rwA h a l) : x_Mx mm_Sc_putEqualType [.inr (some 1), .inr (some a), .inl 0] h (fun r hf => r = none ∧ scP hf (w ++ eqT l 0) ∧ gr pP 0 0 h hf) := by
  refine xmx rfl (nl rfl) ?_
  show x_X _ 0 [some (.inr (some 1)), some (.inr (some a)), some (.inl 0), none] [] _ _
  refine xx (xs_iload_n dm_Sc_putEqualType_0 rfl) ?_
  refine xx (xs_istore_n dm_Sc_putEqualType_1 (by decide)) ?_
  show x_X _ 2 [some (.inr (some 1)), some (.inr (some a)), some (.inl 0), some (.inl 0)] [] _ _
  refine xx (xs_iload_n dm_Sc_putEqualType_2 rfl) ?_
  refine xx (xs_iconst dm_Sc_putEqualType_3) ?_
  refine xx (xs_icmp_ge_f (tgt := 23) dm_Sc_putEqualType_4 rfl (by unfold ir; omega) (by unfold ir; omega) (by omega)) ?_
  refine xx (xs_aload_n dm_Sc_putEqualType_7 rfl) ?_
  refine xx (xs_iconst dm_Sc_putEqualType_8) ?_
  refine xcV (as := [.inl 0]) (rest := []) dm_Sc_putEqualType_9 lc_Sc_put lm_Sc_28 li_Sc_put (nr rfl rfl) rfl rfl (scP_c hp).choose_spec rfl (nl rfl) (sc_put hp (by unfold ir; omega)) ?_
  rintro _ h1 ⟨rfl, hp1, g1⟩
  show x_X _ 12 [some (.inr (some 1)), some (.inr (some a)), some (.inl 0), some (.inl 0)] [] _ _
  have k1 : gr pP 0 0 h h1 := gr_p (gr_rf pP h) g1 (Nat.le_refl _) (Nat.le_refl _)
  refine xx (xs_aload_n dm_Sc_putEqualType_12 rfl) ?_
  refine xx (xs_aload_n dm_Sc_putEqualType_13 rfl) ?_
  refine xcV (as := [.inr (some a)]) (rest := []) dm_Sc_putEqualType_14 lc_Sc_putRow lm_Sc_36 li_Sc_putRow (nr rfl rfl) rfl rfl (scP_c hp1).choose_spec rfl (nl rfl) (sc_putRow hp1 (rwA_p hr (k1))) ?_
  rintro _ h2 ⟨rfl, hp2, g2⟩
  show x_X _ 17 [some (.inr (some 1)), some (.inr (some a)), some (.inl 0), some (.inl 0)] [] _ _
  have k2 : gr pP 0 0 h h2 := gr_p (k1) g2 (Nat.le_refl _) (Nat.le_refl _)
  refine xx (xs_iinc dm_Sc_putEqualType_17 rfl (by decide)) ?_
  show x_X _ 20 [some (.inr (some 1)), some (.inr (some a)), some (.inl 0), some (.inl (0 + 1))] [] _ _
  refine xx (xs_goto (tgt := 2) dm_Sc_putEqualType_20 rfl) ?_
  refine xx (xs_iload_n dm_Sc_putEqualType_2 rfl) ?_
  refine xx (xs_iconst dm_Sc_putEqualType_3) ?_
  refine xx (xs_icmp_ge_f (tgt := 23) dm_Sc_putEqualType_4 rfl (by unfold ir; omega) (by unfold ir; omega) (by omega)) ?_
  refine xx (xs_aload_n dm_Sc_putEqualType_7 rfl) ?_
  refine xx (xs_iconst dm_Sc_putEqualType_8) ?_
  refine xcV (as := [.inl 0]) (rest := []) dm_Sc_putEqualType_9 lc_Sc_put lm_Sc_28 li_Sc_put (nr rfl rfl) rfl rfl (scP_c hp2).choose_spec rfl (nl rfl) (sc_put hp2 (by unfold ir; omega)) ?_
  rintro _ h3 ⟨rfl, hp3, g3⟩
  show x_X _ 12 [some (.inr (some 1)), some (.inr (some a)), some (.inl 0), some (.inl (0 + 1))] [] _ _
  have k3 : gr pP 0 0 h h3 := gr_p (k2) g3 (Nat.le_refl _) (Nat.le_refl _)
  refine xx (xs_aload_n dm_Sc_putEqualType_12 rfl) ?_
  refine xx (xs_aload_n dm_Sc_putEqualType_13 rfl) ?_
  refine xcV (as := [.inr (some a)]) (rest := []) dm_Sc_putEqualType_14 lc_Sc_putRow lm_Sc_36 li_Sc_putRow (nr rfl rfl) rfl rfl (scP_c hp3).choose_spec rfl (nl rfl) (sc_putRow hp3 (rwA_p hr (k3))) ?_
  rintro _ h4 ⟨rfl, hp4, g4⟩
  show x_X _ 17 [some (.inr (some 1)), some (.inr (some a)), some (.inl 0), some (.inl (0 + 1))] [] _ _
  have k4 : gr pP 0 0 h h4 := gr_p (k3) g4 (Nat.le_refl _) (Nat.le_refl _)
  refine xx (xs_iinc dm_Sc_putEqualType_17 rfl (by decide)) ?_
  show x_X _ 20 [some (.inr (some 1)), some (.inr (some a)), some (.inl 0), some (.inl ((0 + 1) + 1))] [] _ _
  refine xx (xs_goto (tgt := 2) dm_Sc_putEqualType_20 rfl) ?_
  refine xx (xs_iload_n dm_Sc_putEqualType_2 rfl) ?_
  refine xx (xs_iconst dm_Sc_putEqualType_3) ?_
  refine xx (xs_icmp_ge_t (tgt := 23) dm_Sc_putEqualType_4 rfl (by unfold ir; omega) (by unfold ir; omega) (by omega)) ?_
  refine xx (xs_aload_n dm_Sc_putEqualType_23 rfl) ?_
  refine xx (xs_iconst dm_Sc_putEqualType_24) ?_
  refine xcV (as := [.inl 1]) (rest := []) dm_Sc_putEqualType_25 lc_Sc_put lm_Sc_28 li_Sc_put (nr rfl rfl) rfl rfl (scP_c hp4).choose_spec rfl (nl rfl) (sc_put hp4 (by unfold ir; omega)) ?_
  rintro _ h5 ⟨rfl, hp5, g5⟩
  show x_X _ 28 [some (.inr (some 1)), some (.inr (some a)), some (.inl 0), some (.inl ((0 + 1) + 1))] [] _ _
  have k5 : gr pP 0 0 h h5 := gr_p (k4) g5 (Nat.le_refl _) (Nat.le_refl _)
  exact ⟨_, _, xb_v dm_Sc_putEqualType_28 rfl, rfl, by simpa [eqT] using hp5, k5⟩
theorem sc_putEqual {h : xH} {a n : Nat} {w l : List Int} {nn : Int} (hp : scP h w) (hr : rwA h a l) (hnn : nn = n) (hn : n ≤ 2) : x_Mx mm_Sc_putEqualType [.inr (some 1), .inr (some a), .inl nn] h (fun r hf => r = none ∧ scP hf (w ++ eqT l n) ∧ gr pP 0 0 h hf) := by
  subst hnn
  rcases (show n = 0 ∨ n = 1 ∨ n = 2 by omega) with rfl | rfl | rfl
  · exact sc_putEqual0 hp hr
  · exact sc_putEqual1 hp hr
  · exact sc_putEqual2 hp hr
set_option maxHeartbeats 4000000 in
set_option maxRecDepth 100000 in
theorem sc_leaf_l {h0 : xH} {nn : Int} {w res : List Int} {o1 o2 o3 o5 o6 o7 : Option xV} (hn9 : nn ≤ 1000) : ∀ (m C0 S0 : Nat) (jj : Int) (b : Nat) (c : List Int) (h : xH), nn = jj + (m : Int) → 0 ≤ jj → aps c m res → scP h w → rwA h b c → gr pP C0 S0 h0 h → x_X mm_Sc_putLeafType 95 [some (.inr (some 1)), o1, o2, o3, some (.inl nn), o5, o6, o7, some (.inr (some b)), some (.inl jj)] [] h (fun r hf => r = none ∧ scP hf (w ++ res) ∧ gr pP (C0 + m) (S0 + 3 * m) h0 hf) := by
  intro m
  induction m with
  | zero =>
    intro C0 S0 jj b c h hj hj0 ha hp hr hg
    have ha' : c = res := ha
    subst ha'
    refine xx (xs_iload dm_Sc_putLeafType_95 rfl) ?_
    refine xx (xs_iload dm_Sc_putLeafType_97 rfl) ?_
    refine xx (xs_icmp_ge_t (tgt := 115) dm_Sc_putLeafType_99 rfl (by unfold ir; omega) (by unfold ir; omega) (by omega)) ?_
    refine xx (xs_aload_n dm_Sc_putLeafType_115 rfl) ?_
    refine xx (xs_aload dm_Sc_putLeafType_116 rfl) ?_
    refine xcV (as := [.inr (some b)]) (rest := []) dm_Sc_putLeafType_118 lc_Sc_putRow lm_Sc_36 li_Sc_putRow (nr rfl rfl) rfl rfl (scP_c hp).choose_spec rfl (nl rfl) (sc_putRow hp hr) ?_
    rintro _ h2 ⟨rfl, hp2, g2⟩
    show x_X _ 121 [some (.inr (some 1)), o1, o2, o3, some (.inl nn), o5, o6, o7, some (.inr (some b)), some (.inl jj)] [] _ _
    exact ⟨_, _, xb_v dm_Sc_putLeafType_121 rfl, rfl, hp2, gr_p hg g2 (Nat.le_refl _) (Nat.le_refl _)⟩
  | succ m ih =>
    intro C0 S0 jj b c h hj hj0 ha hp hr hg
    obtain ⟨c1, b1, t1, t2, e, ha'⟩ := ha
    have hr' := hr
    obtain ⟨ra1, ri1, s1, f1, A1, rs1, rc1, rd1, rl1, rf1, rg1⟩ := hr
    refine xx (xs_iload dm_Sc_putLeafType_95 rfl) ?_
    refine xx (xs_iload dm_Sc_putLeafType_97 rfl) ?_
    refine xx (xs_icmp_ge_f (tgt := 115) dm_Sc_putLeafType_99 rfl (by unfold ir; omega) (by unfold ir; omega) (by omega)) ?_
    refine xx (xs_aload dm_Sc_putLeafType_102 rfl) ?_
    refine xcV (as := []) (rest := []) dm_Sc_putLeafType_104 lc_Ro_functionResult lm_Sc_77 li_Ro_functionResult (nr rfl rfl) rfl rfl rc1 rfl (nl rfl) (ro_functionResult hr' e t1) ?_
    rintro _ h2 ⟨b2, rfl, g2, w2⟩
    show x_X _ 107 [some (.inr (some 1)), o1, o2, o3, some (.inl nn), o5, o6, o7, some (.inr (some b)), some (.inl jj)] [.inr (some b2)] _ _
    refine xx (xs_astore dm_Sc_putLeafType_107 (by decide)) ?_
    show x_X _ 109 [some (.inr (some 1)), o1, o2, o3, some (.inl nn), o5, o6, o7, some (.inr (some b2)), some (.inl jj)] [] _ _
    refine xx (xs_iinc dm_Sc_putLeafType_109 rfl (by decide)) ?_
    show x_X _ 112 [some (.inr (some 1)), o1, o2, o3, some (.inl nn), o5, o6, o7, some (.inr (some b2)), some (.inl (jj + 1))] [] _ _
    refine xx (xs_goto (tgt := 95) dm_Sc_putLeafType_112 rfl) ?_
    refine xxq (ih (C0 + 1) (S0 + 3) _ b2 b1 h2 (by omega) (by omega) ha' (scP_f hp g2) w2 (gr_p hg (gr_fp g2) (Nat.le_refl _) (Nat.le_refl _))) ?_
    rintro r hf ⟨q1, q2, q3⟩
    exact ⟨q1, q2, gr_w q3 (fun _ _ e => e) (by omega) (by omega)⟩
set_option maxHeartbeats 4000000 in
set_option maxRecDepth 100000 in
theorem sc_leaf1 {h : xH} {a k n : Nat} {w l c pre post res : List Int} {kk gg nn x y : Int} (hp : scP h w) (hr : rwA h a l) (hkk : kk = k) (hnn : nn = n) (hn9 : n ≤ 900) (hk : pre.length = k) (e : l = pre ++ (x :: y :: (c ++ post))) (tc : isTy c) (hx : x = 10 ∨ (x = 11 ∧ y ≠ 0)) (hg0 : 0 ≤ gg ∧ gg ≤ 1000) (ha : aps c n res) : x_Mx mm_Sc_putLeafType [.inr (some 1), .inr (some a), .inl kk, .inl gg, .inl nn] h (fun r hf => r = none ∧ scP hf (w ++ res) ∧ gr pP (n + 1) (3 * n + 3) h hf) := by
  refine xmx rfl (nl rfl) ?_
  have hr' := hr
  have l1 := rwA_len hr
  have hx0 : l[k]? = some x := by rw [e, List.getElem?_append_right (by omega)]; simp [hk]
  have hx1 : l[k + 1]? = some y := by rw [e, List.getElem?_append_right (by omega), show k + 1 - pre.length = 1 by omega]; rfl
  have hkl := (List.getElem?_eq_some_iff.mp hx0).1
  have e0 : atL l kk = x := by rw [hkk]; exact atL_n hx0
  have e1 : atL l (kk + 1) = y := by rw [hkk, show (k : Int) + 1 = ((k + 1 : Nat) : Int) by omega]; exact atL_n hx1
  have i0 := atL_ir hr.2.1 kk
  have i1 := atL_ir hr.2.1 (kk + 1)
  have e2 : l = (pre ++ [x, y]) ++ (c ++ post) := by rw [e]; simp
  obtain ⟨ra1, ri1, s1, f1, A1, rs1, rc1, rd1, rl1, rf1, rg1⟩ := hr
  show x_X _ 0 [some (.inr (some 1)), some (.inr (some a)), some (.inl kk), some (.inl gg), some (.inl nn), none, none, none, none, none] [] _ _
  refine xx (xs_aload_n dm_Sc_putLeafType_0 rfl) ?_
  refine xx (xs_iload_n dm_Sc_putLeafType_1 rfl) ?_
  refine xcV (as := [.inl kk]) (rest := []) dm_Sc_putLeafType_2 lc_Ro_at lm_Sc_51 li_Ro_at (nr rfl rfl) rfl rfl rc1 rfl (nl rfl) (ro_at hr' (by unfold ir; omega)) ?_
  rintro _ hx9 ⟨rfl, hhx9⟩
  have hhx9 := hhx9.symm
  subst hhx9
  show x_X _ 5 [some (.inr (some 1)), some (.inr (some a)), some (.inl kk), some (.inl gg), some (.inl nn), none, none, none, none, none] [.inl (atL l kk)] _ _
  refine xx (xs_istore dm_Sc_putLeafType_5 (by decide)) ?_
  show x_X _ 7 [some (.inr (some 1)), some (.inr (some a)), some (.inl kk), some (.inl gg), some (.inl nn), some (.inl (atL l kk)), none, none, none, none] [] _ _
  refine xx (xs_iload dm_Sc_putLeafType_7 rfl) ?_
  refine xx (xs_bipush dm_Sc_putLeafType_9 (by decide)) ?_
  refine xx_icmp_ne (tgt := 38) dm_Sc_putLeafType_11 rfl i0 (by unfold ir; omega) (fun hc => ?_) (fun hc => ?_)
  · change x_X _ 38 _ _ _ _
    refine xx (xs_iload_n dm_Sc_putLeafType_38 rfl) ?_
    refine xx (xs_iconst dm_Sc_putLeafType_39) ?_
    refine xx (xs_isub dm_Sc_putLeafType_40) ?_
    refine xx (xs_iload dm_Sc_putLeafType_41 rfl) ?_
    refine xx (xs_bipush dm_Sc_putLeafType_43 (by decide)) ?_
    refine xx (xs_isub dm_Sc_putLeafType_45) ?_
    refine xx (xs_isub dm_Sc_putLeafType_46) ?_
    refine xx (xs_istore dm_Sc_putLeafType_47 (by decide)) ?_
    show x_X _ 49 [some (.inr (some 1)), some (.inr (some a)), some (.inl kk), some (.inl gg), some (.inl nn), some (.inl (atL l kk)), some (.inl ((gg - 1) - ((atL l kk) - 20))), none, none, none] [] _ _
    refine xx (xs_iload dm_Sc_putLeafType_49 rfl) ?_
    refine xx (xs_bipush dm_Sc_putLeafType_51 (by decide)) ?_
    refine xx (xs_icmp_lt_t (tgt := 65) dm_Sc_putLeafType_53 rfl i0 (by unfold ir; omega) (by omega)) ?_
    refine xx (xs_iconst dm_Sc_putLeafType_65) ?_
    refine xx (xs_istore dm_Sc_putLeafType_66 (by decide)) ?_
    show x_X _ 68 [some (.inr (some 1)), some (.inr (some a)), some (.inl kk), some (.inl gg), some (.inl nn), some (.inl (atL l kk)), some (.inl ((gg - 1) - ((atL l kk) - 20))), some (.inl 0), none, none] [] _ _
    refine xx (xs_iload dm_Sc_putLeafType_68 rfl) ?_
    refine xx (xs_if_eq_t (tgt := 83) dm_Sc_putLeafType_70 rfl (by unfold ir; omega) (by decide)) ?_
    refine xx (xs_aload_n dm_Sc_putLeafType_83 rfl) ?_
    refine xx (xs_iload_n dm_Sc_putLeafType_84 rfl) ?_
    refine xx (xs_iconst dm_Sc_putLeafType_85) ?_
    refine xx (xs_iadd dm_Sc_putLeafType_86) ?_
    refine xcV (as := [.inl (kk + 2)]) (rest := []) dm_Sc_putLeafType_87 lc_Ro_typeAt lm_Sc_40 li_Ro_typeAt (nr rfl rfl) rfl rfl rc1 rfl (nl rfl) (ro_typeAt (pre := pre ++ [x, y]) (post := post) hr' e2 tc (by simp; omega)) ?_
    rintro _ h2 ⟨b2, rfl, g2, w2⟩
    show x_X _ 90 [some (.inr (some 1)), some (.inr (some a)), some (.inl kk), some (.inl gg), some (.inl nn), some (.inl (atL l kk)), some (.inl ((gg - 1) - ((atL l kk) - 20))), some (.inl 0), none, none] [.inr (some b2)] _ _
    refine xx (xs_astore dm_Sc_putLeafType_90 (by decide)) ?_
    show x_X _ 92 [some (.inr (some 1)), some (.inr (some a)), some (.inl kk), some (.inl gg), some (.inl nn), some (.inl (atL l kk)), some (.inl ((gg - 1) - ((atL l kk) - 20))), some (.inl 0), some (.inr (some b2)), none] [] _ _
    refine xx (xs_iconst dm_Sc_putLeafType_92) ?_
    refine xx (xs_istore dm_Sc_putLeafType_93 (by decide)) ?_
    show x_X _ 95 [some (.inr (some 1)), some (.inr (some a)), some (.inl kk), some (.inl gg), some (.inl nn), some (.inl (atL l kk)), some (.inl ((gg - 1) - ((atL l kk) - 20))), some (.inl 0), some (.inr (some b2)), some (.inl 0)] [] _ _
    refine xxq (sc_leaf_l (by omega) n 1 3 0 b2 c h2 (by omega) (by omega) ha (scP_f hp g2) w2 (gr_fp g2)) ?_
    rintro r hf ⟨q1, q2, q3⟩
    exact ⟨q1, q2, gr_w q3 (fun _ _ e => e) (by omega) (by omega)⟩
  · change x_X _ 14 _ _ _ _
    refine xx (xs_aload_n dm_Sc_putLeafType_14 rfl) ?_
    refine xx (xs_iload_n dm_Sc_putLeafType_15 rfl) ?_
    refine xx (xs_iconst dm_Sc_putLeafType_16) ?_
    refine xx (xs_iadd dm_Sc_putLeafType_17) ?_
    refine xcV (as := [.inl (kk + 1)]) (rest := []) dm_Sc_putLeafType_18 lc_Ro_at lm_Sc_51 li_Ro_at (nr rfl rfl) rfl rfl rc1 rfl (nl rfl) (ro_at hr' (by unfold ir; omega)) ?_
    rintro _ hx9 ⟨rfl, hhx9⟩
    have hhx9 := hhx9.symm
    subst hhx9
    show x_X _ 21 [some (.inr (some 1)), some (.inr (some a)), some (.inl kk), some (.inl gg), some (.inl nn), some (.inl (atL l kk)), none, none, none, none] [.inl (atL l (kk + 1))] _ _
    refine xx (xs_if_ne_t (tgt := 38) dm_Sc_putLeafType_21 rfl i1 (by omega)) ?_
    refine xx (xs_iload_n dm_Sc_putLeafType_38 rfl) ?_
    refine xx (xs_iconst dm_Sc_putLeafType_39) ?_
    refine xx (xs_isub dm_Sc_putLeafType_40) ?_
    refine xx (xs_iload dm_Sc_putLeafType_41 rfl) ?_
    refine xx (xs_bipush dm_Sc_putLeafType_43 (by decide)) ?_
    refine xx (xs_isub dm_Sc_putLeafType_45) ?_
    refine xx (xs_isub dm_Sc_putLeafType_46) ?_
    refine xx (xs_istore dm_Sc_putLeafType_47 (by decide)) ?_
    show x_X _ 49 [some (.inr (some 1)), some (.inr (some a)), some (.inl kk), some (.inl gg), some (.inl nn), some (.inl (atL l kk)), some (.inl ((gg - 1) - ((atL l kk) - 20))), none, none, none] [] _ _
    refine xx (xs_iload dm_Sc_putLeafType_49 rfl) ?_
    refine xx (xs_bipush dm_Sc_putLeafType_51 (by decide)) ?_
    refine xx (xs_icmp_lt_t (tgt := 65) dm_Sc_putLeafType_53 rfl i0 (by unfold ir; omega) (by omega)) ?_
    refine xx (xs_iconst dm_Sc_putLeafType_65) ?_
    refine xx (xs_istore dm_Sc_putLeafType_66 (by decide)) ?_
    show x_X _ 68 [some (.inr (some 1)), some (.inr (some a)), some (.inl kk), some (.inl gg), some (.inl nn), some (.inl (atL l kk)), some (.inl ((gg - 1) - ((atL l kk) - 20))), some (.inl 0), none, none] [] _ _
    refine xx (xs_iload dm_Sc_putLeafType_68 rfl) ?_
    refine xx (xs_if_eq_t (tgt := 83) dm_Sc_putLeafType_70 rfl (by unfold ir; omega) (by decide)) ?_
    refine xx (xs_aload_n dm_Sc_putLeafType_83 rfl) ?_
    refine xx (xs_iload_n dm_Sc_putLeafType_84 rfl) ?_
    refine xx (xs_iconst dm_Sc_putLeafType_85) ?_
    refine xx (xs_iadd dm_Sc_putLeafType_86) ?_
    refine xcV (as := [.inl (kk + 2)]) (rest := []) dm_Sc_putLeafType_87 lc_Ro_typeAt lm_Sc_40 li_Ro_typeAt (nr rfl rfl) rfl rfl rc1 rfl (nl rfl) (ro_typeAt (pre := pre ++ [x, y]) (post := post) hr' e2 tc (by simp; omega)) ?_
    rintro _ h2 ⟨b2, rfl, g2, w2⟩
    show x_X _ 90 [some (.inr (some 1)), some (.inr (some a)), some (.inl kk), some (.inl gg), some (.inl nn), some (.inl (atL l kk)), some (.inl ((gg - 1) - ((atL l kk) - 20))), some (.inl 0), none, none] [.inr (some b2)] _ _
    refine xx (xs_astore dm_Sc_putLeafType_90 (by decide)) ?_
    show x_X _ 92 [some (.inr (some 1)), some (.inr (some a)), some (.inl kk), some (.inl gg), some (.inl nn), some (.inl (atL l kk)), some (.inl ((gg - 1) - ((atL l kk) - 20))), some (.inl 0), some (.inr (some b2)), none] [] _ _
    refine xx (xs_iconst dm_Sc_putLeafType_92) ?_
    refine xx (xs_istore dm_Sc_putLeafType_93 (by decide)) ?_
    show x_X _ 95 [some (.inr (some 1)), some (.inr (some a)), some (.inl kk), some (.inl gg), some (.inl nn), some (.inl (atL l kk)), some (.inl ((gg - 1) - ((atL l kk) - 20))), some (.inl 0), some (.inr (some b2)), some (.inl 0)] [] _ _
    refine xxq (sc_leaf_l (by omega) n 1 3 0 b2 c h2 (by omega) (by omega) ha (scP_f hp g2) w2 (gr_fp g2)) ?_
    rintro r hf ⟨q1, q2, q3⟩
    exact ⟨q1, q2, gr_w q3 (fun _ _ e => e) (by omega) (by omega)⟩
set_option maxHeartbeats 4000000 in
set_option maxRecDepth 100000 in
theorem sc_leaf2 {h : xH} {a k n : Nat} {w l c pre post res : List Int} {kk gg nn x y : Int} (hp : scP h w) (hr : rwA h a l) (hkk : kk = k) (hnn : nn = n) (hn9 : n ≤ 900) (hk : pre.length = k) (e : l = pre ++ (x :: y :: (c ++ post))) (tc : isTy c) (hx : x = 11 ∧ y = 0) (hn2 : n ≤ 2) : x_Mx mm_Sc_putLeafType [.inr (some 1), .inr (some a), .inl kk, .inl gg, .inl nn] h (fun r hf => r = none ∧ scP hf (w ++ eqT c n) ∧ gr pP (n + 1) (3 * n + 3) h hf) := by
  refine xmx rfl (nl rfl) ?_
  have hr' := hr
  have l1 := rwA_len hr
  have hx0 : l[k]? = some x := by rw [e, List.getElem?_append_right (by omega)]; simp [hk]
  have hx1 : l[k + 1]? = some y := by rw [e, List.getElem?_append_right (by omega), show k + 1 - pre.length = 1 by omega]; rfl
  have hkl := (List.getElem?_eq_some_iff.mp hx0).1
  have e0 : atL l kk = x := by rw [hkk]; exact atL_n hx0
  have e1 : atL l (kk + 1) = y := by rw [hkk, show (k : Int) + 1 = ((k + 1 : Nat) : Int) by omega]; exact atL_n hx1
  have i0 := atL_ir hr.2.1 kk
  have i1 := atL_ir hr.2.1 (kk + 1)
  have e2 : l = (pre ++ [x, y]) ++ (c ++ post) := by rw [e]; simp
  obtain ⟨ra1, ri1, s1, f1, A1, rs1, rc1, rd1, rl1, rf1, rg1⟩ := hr
  show x_X _ 0 [some (.inr (some 1)), some (.inr (some a)), some (.inl kk), some (.inl gg), some (.inl nn), none, none, none, none, none] [] _ _
  refine xx (xs_aload_n dm_Sc_putLeafType_0 rfl) ?_
  refine xx (xs_iload_n dm_Sc_putLeafType_1 rfl) ?_
  refine xcV (as := [.inl kk]) (rest := []) dm_Sc_putLeafType_2 lc_Ro_at lm_Sc_51 li_Ro_at (nr rfl rfl) rfl rfl rc1 rfl (nl rfl) (ro_at hr' (by unfold ir; omega)) ?_
  rintro _ hx9 ⟨rfl, hhx9⟩
  have hhx9 := hhx9.symm
  subst hhx9
  show x_X _ 5 [some (.inr (some 1)), some (.inr (some a)), some (.inl kk), some (.inl gg), some (.inl nn), none, none, none, none, none] [.inl (atL l kk)] _ _
  refine xx (xs_istore dm_Sc_putLeafType_5 (by decide)) ?_
  show x_X _ 7 [some (.inr (some 1)), some (.inr (some a)), some (.inl kk), some (.inl gg), some (.inl nn), some (.inl (atL l kk)), none, none, none, none] [] _ _
  refine xx (xs_iload dm_Sc_putLeafType_7 rfl) ?_
  refine xx (xs_bipush dm_Sc_putLeafType_9 (by decide)) ?_
  refine xx (xs_icmp_ne_f (tgt := 38) dm_Sc_putLeafType_11 rfl i0 (by unfold ir; omega) (by omega)) ?_
  refine xx (xs_aload_n dm_Sc_putLeafType_14 rfl) ?_
  refine xx (xs_iload_n dm_Sc_putLeafType_15 rfl) ?_
  refine xx (xs_iconst dm_Sc_putLeafType_16) ?_
  refine xx (xs_iadd dm_Sc_putLeafType_17) ?_
  refine xcV (as := [.inl (kk + 1)]) (rest := []) dm_Sc_putLeafType_18 lc_Ro_at lm_Sc_51 li_Ro_at (nr rfl rfl) rfl rfl rc1 rfl (nl rfl) (ro_at hr' (by unfold ir; omega)) ?_
  rintro _ hx9 ⟨rfl, hhx9⟩
  have hhx9 := hhx9.symm
  subst hhx9
  show x_X _ 21 [some (.inr (some 1)), some (.inr (some a)), some (.inl kk), some (.inl gg), some (.inl nn), some (.inl (atL l kk)), none, none, none, none] [.inl (atL l (kk + 1))] _ _
  refine xx (xs_if_ne_f (tgt := 38) dm_Sc_putLeafType_21 rfl i1 (by omega)) ?_
  refine xx (xs_aload_n dm_Sc_putLeafType_24 rfl) ?_
  refine xx (xs_aload_n dm_Sc_putLeafType_25 rfl) ?_
  refine xx (xs_iload_n dm_Sc_putLeafType_26 rfl) ?_
  refine xx (xs_iconst dm_Sc_putLeafType_27) ?_
  refine xx (xs_iadd dm_Sc_putLeafType_28) ?_
  refine xcV (as := [.inl (kk + 2)]) (rest := [.inr (some 1)]) dm_Sc_putLeafType_29 lc_Ro_typeAt lm_Sc_40 li_Ro_typeAt (nr rfl rfl) rfl rfl rc1 rfl (nl rfl) (ro_typeAt (pre := pre ++ [x, y]) (post := post) hr' e2 tc (by simp; omega)) ?_
  rintro _ h2 ⟨b2, rfl, g2, w2⟩
  show x_X _ 32 [some (.inr (some 1)), some (.inr (some a)), some (.inl kk), some (.inl gg), some (.inl nn), some (.inl (atL l kk)), none, none, none, none] [.inr (some b2), .inr (some 1)] _ _
  refine xx (xs_iload dm_Sc_putLeafType_32 rfl) ?_
  refine xcV (as := [.inr (some b2), .inl nn]) (rest := []) dm_Sc_putLeafType_34 lc_Sc_putEqualType lm_Sc_73 li_Sc_putEqualType (nr rfl rfl) rfl rfl (scP_c (scP_f hp g2)).choose_spec rfl (nl rfl) (sc_putEqual (scP_f hp g2) w2 hnn hn2) ?_
  rintro _ h3 ⟨rfl, hp3, g3⟩
  show x_X _ 37 [some (.inr (some 1)), some (.inr (some a)), some (.inl kk), some (.inl gg), some (.inl nn), some (.inl (atL l kk)), none, none, none, none] [] _ _
  exact ⟨_, _, xb_v dm_Sc_putLeafType_37 rfl, rfl, hp3, gr_p (gr_fp g2) g3 (by omega) (by omega)⟩
set_option maxHeartbeats 4000000 in
set_option maxRecDepth 100000 in
theorem sc_leaf3 {h : xH} {a k n d : Nat} {w l c pre post res : List Int} {G : List (List Int)} {kk gg nn : Int} (hp : scP h w) (hr : rwA h a l) (hB : scB h G) (hkk : kk = k) (hnn : nn = n) (hn9 : n ≤ 900) (hk : pre.length = k) (e : l = pre ++ ((20 + (d : Int)) :: post)) (hd : G[d]? = some c) (hgg : gg = G.length) (hG : G.length ≤ 40) (ha : aps c n res) : x_Mx mm_Sc_putLeafType [.inr (some 1), .inr (some a), .inl kk, .inl gg, .inl nn] h (fun r hf => r = none ∧ scP hf (w ++ res) ∧ gr pP (n + 1) (3 * n + 3) h hf) := by
  refine xmx rfl (nl rfl) ?_
  have hr' := hr
  have l1 := rwA_len hr
  have hdl := (List.getElem?_eq_some_iff.mp hd).1
  have hx0 : l[k]? = some (20 + (d : Int)) := by rw [e, List.getElem?_append_right (by omega)]; simp [hk]
  have hkl := (List.getElem?_eq_some_iff.mp hx0).1
  have e0 : atL l kk = 20 + (d : Int) := by rw [hkk]; exact atL_n hx0
  have i0 := atL_ir hr.2.1 kk
  have c1 := scP_1 hp
  obtain ⟨bi, b1, c5, b3⟩ := hB
  obtain ⟨b, b4, b5⟩ := b3 d c hd
  obtain ⟨ra1, ri1, s1, f1, A1, rs1, rc1, rd1, rl1, rf1, rg1⟩ := hr
  show x_X _ 0 [some (.inr (some 1)), some (.inr (some a)), some (.inl kk), some (.inl gg), some (.inl nn), none, none, none, none, none] [] _ _
  refine xx (xs_aload_n dm_Sc_putLeafType_0 rfl) ?_
  refine xx (xs_iload_n dm_Sc_putLeafType_1 rfl) ?_
  refine xcV (as := [.inl kk]) (rest := []) dm_Sc_putLeafType_2 lc_Ro_at lm_Sc_51 li_Ro_at (nr rfl rfl) rfl rfl rc1 rfl (nl rfl) (ro_at hr' (by unfold ir; omega)) ?_
  rintro _ hx9 ⟨rfl, hhx9⟩
  have hhx9 := hhx9.symm
  subst hhx9
  show x_X _ 5 [some (.inr (some 1)), some (.inr (some a)), some (.inl kk), some (.inl gg), some (.inl nn), none, none, none, none, none] [.inl (atL l kk)] _ _
  refine xx (xs_istore dm_Sc_putLeafType_5 (by decide)) ?_
  show x_X _ 7 [some (.inr (some 1)), some (.inr (some a)), some (.inl kk), some (.inl gg), some (.inl nn), some (.inl (atL l kk)), none, none, none, none] [] _ _
  refine xx (xs_iload dm_Sc_putLeafType_7 rfl) ?_
  refine xx (xs_bipush dm_Sc_putLeafType_9 (by decide)) ?_
  refine xx (xs_icmp_ne_t (tgt := 38) dm_Sc_putLeafType_11 rfl i0 (by unfold ir; omega) (by omega)) ?_
  refine xx (xs_iload_n dm_Sc_putLeafType_38 rfl) ?_
  refine xx (xs_iconst dm_Sc_putLeafType_39) ?_
  refine xx (xs_isub dm_Sc_putLeafType_40) ?_
  refine xx (xs_iload dm_Sc_putLeafType_41 rfl) ?_
  refine xx (xs_bipush dm_Sc_putLeafType_43 (by decide)) ?_
  refine xx (xs_isub dm_Sc_putLeafType_45) ?_
  refine xx (xs_isub dm_Sc_putLeafType_46) ?_
  refine xx (xs_istore dm_Sc_putLeafType_47 (by decide)) ?_
  show x_X _ 49 [some (.inr (some 1)), some (.inr (some a)), some (.inl kk), some (.inl gg), some (.inl nn), some (.inl (atL l kk)), some (.inl ((gg - 1) - ((atL l kk) - 20))), none, none, none] [] _ _
  refine xx (xs_iload dm_Sc_putLeafType_49 rfl) ?_
  refine xx (xs_bipush dm_Sc_putLeafType_51 (by decide)) ?_
  refine xx (xs_icmp_lt_f (tgt := 65) dm_Sc_putLeafType_53 rfl i0 (by unfold ir; omega) (by omega)) ?_
  refine xx (xs_iload dm_Sc_putLeafType_56 rfl) ?_
  refine xx (xs_if_lt_f (tgt := 65) dm_Sc_putLeafType_58 rfl (by unfold ir; omega) (by omega)) ?_
  refine xx (xs_iconst dm_Sc_putLeafType_61) ?_
  refine xx (xs_goto (tgt := 66) dm_Sc_putLeafType_62 rfl) ?_
  refine xx (xs_istore dm_Sc_putLeafType_66 (by decide)) ?_
  show x_X _ 68 [some (.inr (some 1)), some (.inr (some a)), some (.inl kk), some (.inl gg), some (.inl nn), some (.inl (atL l kk)), some (.inl ((gg - 1) - ((atL l kk) - 20))), some (.inl 1), none, none] [] _ _
  refine xx (xs_iload dm_Sc_putLeafType_68 rfl) ?_
  refine xx (xs_if_eq_f (tgt := 83) dm_Sc_putLeafType_70 rfl (by unfold ir; omega) (by decide)) ?_
  refine xx (xs_aload_n dm_Sc_putLeafType_73 rfl) ?_
  refine xx (xs_getf dm_Sc_putLeafType_74 lf_Sc_24 c1 rfl) ?_
  refine xx (xs_iload dm_Sc_putLeafType_77 rfl) ?_
  refine xx (xs_aald (x := (some b)) dm_Sc_putLeafType_79 (by decide) c5 (by omega) (by rw [show (gg - 1 - (atL l kk - 20)).toNat = G.length - 1 - d by omega]; exact b4) (by omega)) ?_
  refine xx (xs_goto (tgt := 90) dm_Sc_putLeafType_80 rfl) ?_
  refine xx (xs_astore dm_Sc_putLeafType_90 (by decide)) ?_
  show x_X _ 92 [some (.inr (some 1)), some (.inr (some a)), some (.inl kk), some (.inl gg), some (.inl nn), some (.inl (atL l kk)), some (.inl ((gg - 1) - ((atL l kk) - 20))), some (.inl 1), some (.inr (some b)), none] [] _ _
  refine xx (xs_iconst dm_Sc_putLeafType_92) ?_
  refine xx (xs_istore dm_Sc_putLeafType_93 (by decide)) ?_
  show x_X _ 95 [some (.inr (some 1)), some (.inr (some a)), some (.inl kk), some (.inl gg), some (.inl nn), some (.inl (atL l kk)), some (.inl ((gg - 1) - ((atL l kk) - 20))), some (.inl 1), some (.inr (some b)), some (.inl 0)] [] _ _
  refine xxq (sc_leaf_l (by omega) n 0 0 0 b c h (by omega) (by omega) ha hp b5 (gr_rf _ _)) ?_
  rintro r hf ⟨q1, q2, q3⟩
  exact ⟨q1, q2, gr_w q3 (fun _ _ e => e) (by omega) (by omega)⟩
