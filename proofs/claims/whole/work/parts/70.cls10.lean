/-! the type of a term, by the class's way -/
abbrev pE : Nat → Prop := fun i => i = 1 ∨ i = 2 ∨ i = 5
theorem pE_hi {i : Nat} (h : 23 ≤ i) : ¬ pE i := fun e => by rcases e with e | e | e <;> omega
theorem rwA_e {C S : Nat} {h hf : xH} {a : Nat} {l : List Int} (hr : rwA h a l) (hg : gr pE C S h hf) : rwA hf a l := rwA_lo hr hg (fun _ h => pE_hi h)
theorem gr_e {C S C' S' C2 S2 : Nat} {h h1 h2 : xH} (a : gr pE C S h h1) (b : gr pE C' S' h1 h2) (hC : C + C' ≤ C2) (hS : S + S' ≤ S2) : gr pE C2 S2 h h2 := gr_tr a b (fun _ _ e => e) hC hS
theorem gr_pe {C S : Nat} {h h1 : xH} (a : gr pP C S h h1) : gr pE C S h h1 := gr_w a (fun _ _ e => by rcases e with e | e; exact Or.inl e; exact Or.inr (Or.inl e)) (Nat.le_refl _) (Nat.le_refl _)
theorem gr_fe {C S : Nat} {h h1 : xH} (a : gr (fun _ => False) C S h h1) : gr pE C S h h1 := gr_w a (fun _ _ e => e.elim) (Nat.le_refl _) (Nat.le_refl _)
theorem scB_0 {h : xH} {G : List (List Int)} (hB : scB h G) : scB h [] := by
  obtain ⟨bi, b1, b2, b3⟩ := hB
  exact ⟨bi, b1, b2, by simp⟩
def toP (h0 : xH) (a : Nat) (l : List Int) (G : List (List Int)) (t b : List Int) : Prop := ∀ (k n : Nat) (pre r res w : List Int) (h : xH) (kk nn gg : Int) (o5 : Option xV), l = pre ++ (t ++ r) → pre.length = k → kk = k → nn = n → gg = (G.length : Int) → aps b n res → n ≤ k → G.length ≤ k → scP h w → scB h G → rwA h a l → gr pE k (3 * k) h0 h → x_X mm_Sc_typeOf 7 [some (.inr (some 1)), some (.inr (some a)), some (.inl nn), some (.inl gg), some (.inl kk), o5] [] h (fun r hf => nrow pE 90 400 h0 ((w ++ res).take 81) r hf ∧ scP hf [] ∧ scB hf [])
set_option maxHeartbeats 4000000 in
set_option maxRecDepth 100000 in
theorem sc_skip_l {h : xH} {a : Nat} {l : List Int} {nn gg : Int} {Q : Option xV → xH → Prop} (hr : rwA h a l) : ∀ (m k : Nat) (kk : Int) (o5 : Option xV), kk = k → (∀ i, i < m → ∃ x, l[k + i]? = some x ∧ x < 10) → (∀ (kk : Int) (o5 : Option xV), kk = ((k + m : Nat) : Int) → x_X mm_Sc_typeOf 7 [some (.inr (some 1)), some (.inr (some a)), some (.inl nn), some (.inl gg), some (.inl kk), o5] [] h Q) → x_X mm_Sc_typeOf 7 [some (.inr (some 1)), some (.inr (some a)), some (.inl nn), some (.inl gg), some (.inl kk), o5] [] h Q := by
  intro m
  induction m with
  | zero => intro k kk o5 hkk _ hq; exact hq kk o5 hkk
  | succ m ih =>
    intro k kk o5 hkk hx hq
    have hr' := hr
    have l1 := rwA_len hr
    obtain ⟨x, hx0, hx10⟩ := hx 0 (by omega)
    rw [Nat.add_zero] at hx0
    have hkl := (List.getElem?_eq_some_iff.mp hx0).1
    have e1 : atL l kk = x := by rw [hkk]; exact atL_n hx0
    have ix := atL_ir hr.2.1 kk
    obtain ⟨ra1, ri1, s1, f1, A1, rs1, rc1, rd1, rl1, rf1, rg1⟩ := hr
    refine xx (xs_iload dm_Sc_typeOf_7 rfl) ?_
    refine xx (xs_aload_n dm_Sc_typeOf_9 rfl) ?_
    refine xx (xs_getf dm_Sc_typeOf_10 lf_Sc_47 rc1 rfl) ?_
    refine xx (xs_icmp_ge_f (tgt := 123) dm_Sc_typeOf_13 rfl (by unfold ir; omega) (by unfold ir; omega) (by omega)) ?_
    refine xx (xs_aload_n dm_Sc_typeOf_16 rfl) ?_
    refine xx (xs_iload dm_Sc_typeOf_17 rfl) ?_
    refine xcV (as := [.inl kk]) (rest := []) dm_Sc_typeOf_19 lc_Ro_at lm_Sc_51 li_Ro_at (nr rfl rfl) rfl rfl rc1 rfl (nl rfl) (ro_at hr' (by unfold ir; omega)) ?_
    rintro _ hx9 ⟨rfl, hhx9⟩
    have hhx9 := hhx9.symm
    subst hhx9
    show x_X _ 22 [some (.inr (some 1)), some (.inr (some a)), some (.inl nn), some (.inl gg), some (.inl kk), o5] [.inl (atL l kk)] _ _
    refine xx (xs_istore dm_Sc_typeOf_22 (by decide)) ?_
    show x_X _ 24 [some (.inr (some 1)), some (.inr (some a)), some (.inl nn), some (.inl gg), some (.inl kk), some (.inl (atL l kk))] [] _ _
    refine xx (xs_iload dm_Sc_typeOf_24 rfl) ?_
    refine xx (xs_bipush dm_Sc_typeOf_26 (by decide)) ?_
    refine xx (xs_icmp_ne_t (tgt := 37) dm_Sc_typeOf_28 rfl ix (by unfold ir; omega) (by omega)) ?_
    refine xx (xs_iload dm_Sc_typeOf_37 rfl) ?_
    refine xx (xs_bipush dm_Sc_typeOf_39 (by decide)) ?_
    refine xx (xs_icmp_ne_t (tgt := 98) dm_Sc_typeOf_41 rfl ix (by unfold ir; omega) (by omega)) ?_
    refine xx (xs_iload dm_Sc_typeOf_98 rfl) ?_
    refine xx (xs_bipush dm_Sc_typeOf_100 (by decide)) ?_
    refine xx (xs_icmp_lt_t (tgt := 117) dm_Sc_typeOf_102 rfl ix (by unfold ir; omega) (by omega)) ?_
    refine xx (xs_iinc dm_Sc_typeOf_117 rfl (by decide)) ?_
    show x_X _ 120 [some (.inr (some 1)), some (.inr (some a)), some (.inl nn), some (.inl gg), some (.inl (kk + 1)), some (.inl (atL l kk))] [] _ _
    refine xx (xs_goto (tgt := 7) dm_Sc_typeOf_120 rfl) ?_
    exact ih (k + 1) _ _ (by omega) (fun i hi => by obtain ⟨y, hy, hy2⟩ := hx (i + 1) (by omega); exact ⟨y, by rw [show k + 1 + i = k + (i + 1) by omega]; exact hy, hy2⟩) (fun kk' o5' hk' => hq kk' o5' (by omega))
set_option maxHeartbeats 4000000 in
set_option maxRecDepth 100000 in
theorem to_v {h0 : xH} {a : Nat} {l : List Int} (h16 : 23 ≤ h0.1.length) (hl : l.length ≤ 40) {G : List (List Int)} {m : Int} {c : List Int} (hm : 0 ≤ m ∧ m ≤ 7) (tc : isTy c) : toP h0 a l G (10 :: m :: c) c := by
  intro k n pre r res w h kk nn gg o5 e hk hkk hnn hgg ha hn hG hp hB hr hg
  have hr' := hr
  have l1 := rwA_len hr
  have c1 := scP_1 hp
  have i0 := atL_ir hr.2.1 kk
  have hx0 : l[k]? = some (10) := by rw [e, List.getElem?_append_right (by omega)]; simp [hk]
  have hkl := (List.getElem?_eq_some_iff.mp hx0).1
  have e1 : atL l kk = 10 := by rw [hkk]; exact atL_n hx0
  obtain ⟨ra1, ri1, s1, f1, A1, rs1, rc1, rd1, rl1, rf1, rg1⟩ := hr
  refine xx (xs_iload dm_Sc_typeOf_7 rfl) ?_
  refine xx (xs_aload_n dm_Sc_typeOf_9 rfl) ?_
  refine xx (xs_getf dm_Sc_typeOf_10 lf_Sc_47 rc1 rfl) ?_
  refine xx (xs_icmp_ge_f (tgt := 123) dm_Sc_typeOf_13 rfl (by unfold ir; omega) (by unfold ir; omega) (by omega)) ?_
  refine xx (xs_aload_n dm_Sc_typeOf_16 rfl) ?_
  refine xx (xs_iload dm_Sc_typeOf_17 rfl) ?_
  refine xcV (as := [.inl kk]) (rest := []) dm_Sc_typeOf_19 lc_Ro_at lm_Sc_51 li_Ro_at (nr rfl rfl) rfl rfl rc1 rfl (nl rfl) (ro_at hr' (by unfold ir; omega)) ?_
  rintro _ hx9 ⟨rfl, hhx9⟩
  have hhx9 := hhx9.symm
  subst hhx9
  show x_X _ 22 [some (.inr (some 1)), some (.inr (some a)), some (.inl nn), some (.inl gg), some (.inl kk), o5] [.inl (atL l kk)] _ _
  refine xx (xs_istore dm_Sc_typeOf_22 (by decide)) ?_
  show x_X _ 24 [some (.inr (some 1)), some (.inr (some a)), some (.inl nn), some (.inl gg), some (.inl kk), some (.inl (atL l kk))] [] _ _
  refine xx (xs_iload dm_Sc_typeOf_24 rfl) ?_
  refine xx (xs_bipush dm_Sc_typeOf_26 (by decide)) ?_
  refine xx (xs_icmp_ne_t (tgt := 37) dm_Sc_typeOf_28 rfl i0 (by unfold ir; omega) (by omega)) ?_
  refine xx (xs_iload dm_Sc_typeOf_37 rfl) ?_
  refine xx (xs_bipush dm_Sc_typeOf_39 (by decide)) ?_
  refine xx (xs_icmp_ne_t (tgt := 98) dm_Sc_typeOf_41 rfl i0 (by unfold ir; omega) (by omega)) ?_
  refine xx (xs_iload dm_Sc_typeOf_98 rfl) ?_
  refine xx (xs_bipush dm_Sc_typeOf_100 (by decide)) ?_
  refine xx (xs_icmp_lt_f (tgt := 117) dm_Sc_typeOf_102 rfl i0 (by unfold ir; omega) (by omega)) ?_
  refine xx (xs_aload_n dm_Sc_typeOf_105 rfl) ?_
  refine xx (xs_aload_n dm_Sc_typeOf_106 rfl) ?_
  refine xx (xs_iload dm_Sc_typeOf_107 rfl) ?_
  refine xx (xs_iload_n dm_Sc_typeOf_109 rfl) ?_
  refine xx (xs_iload_n dm_Sc_typeOf_110 rfl) ?_
  refine xcV (as := [.inr (some a), .inl kk, .inl gg, .inl nn]) (rest := []) dm_Sc_typeOf_111 lc_Sc_putLeafType lm_Sc_69 li_Sc_putLeafType (nr rfl rfl) rfl rfl c1 rfl (nl rfl) (sc_leaf1 (x := 10) (y := m) (post := r) hp hr' hkk hnn (by omega) hk (by rw [e]; simp) tc (Or.inl rfl) (by omega) ha) ?_
  rintro _ h2 ⟨rfl, hp2, g2⟩
  show x_X _ 114 [some (.inr (some 1)), some (.inr (some a)), some (.inl nn), some (.inl gg), some (.inl kk), some (.inl (atL l kk))] [] _ _
  refine xx (xs_goto (tgt := 123) dm_Sc_typeOf_114 rfl) ?_
  refine xx (xs_aload_n dm_Sc_typeOf_123 rfl) ?_
  refine xcV (as := []) (rest := []) dm_Sc_typeOf_124 lc_Sc_finishedRow lm_Sc_32 li_Sc_finishedRow (nr rfl rfl) rfl rfl (scP_c hp2).choose_spec rfl (nl rfl) (sc_finishedRow hp2 (gr_len (gr_e hg (gr_pe g2) (Nat.le_refl _) (Nat.le_refl _)) h16)) ?_
  rintro _ h9 ⟨⟨b9, rfl, g9, w9⟩, p9⟩
  show x_X _ 127 [some (.inr (some 1)), some (.inr (some a)), some (.inl nn), some (.inl gg), some (.inl kk), some (.inl (atL l kk))] [.inr (some b9)] _ _
  exact ⟨_, _, xb_a dm_Sc_typeOf_127 rfl (Or.inl ⟨_, rfl⟩), ⟨b9, rfl, gr_e (gr_e hg (gr_pe g2) (Nat.le_refl _) (Nat.le_refl _)) (gr_pe g9) (by omega) (by omega), w9⟩, p9, scB_0 (scB_p (scB_p hB g2) g9)⟩
set_option maxHeartbeats 4000000 in
set_option maxRecDepth 100000 in
theorem to_c {h0 : xH} {a : Nat} {l : List Int} (h16 : 23 ≤ h0.1.length) (hl : l.length ≤ 40) {G : List (List Int)} {m : Int} {c : List Int} (hm : 1 ≤ m ∧ m ≤ 6) (tc : isTy c) : toP h0 a l G (11 :: m :: c) c := by
  intro k n pre r res w h kk nn gg o5 e hk hkk hnn hgg ha hn hG hp hB hr hg
  have hr' := hr
  have l1 := rwA_len hr
  have c1 := scP_1 hp
  have i0 := atL_ir hr.2.1 kk
  have hx0 : l[k]? = some (11) := by rw [e, List.getElem?_append_right (by omega)]; simp [hk]
  have hkl := (List.getElem?_eq_some_iff.mp hx0).1
  have e1 : atL l kk = 11 := by rw [hkk]; exact atL_n hx0
  obtain ⟨ra1, ri1, s1, f1, A1, rs1, rc1, rd1, rl1, rf1, rg1⟩ := hr
  refine xx (xs_iload dm_Sc_typeOf_7 rfl) ?_
  refine xx (xs_aload_n dm_Sc_typeOf_9 rfl) ?_
  refine xx (xs_getf dm_Sc_typeOf_10 lf_Sc_47 rc1 rfl) ?_
  refine xx (xs_icmp_ge_f (tgt := 123) dm_Sc_typeOf_13 rfl (by unfold ir; omega) (by unfold ir; omega) (by omega)) ?_
  refine xx (xs_aload_n dm_Sc_typeOf_16 rfl) ?_
  refine xx (xs_iload dm_Sc_typeOf_17 rfl) ?_
  refine xcV (as := [.inl kk]) (rest := []) dm_Sc_typeOf_19 lc_Ro_at lm_Sc_51 li_Ro_at (nr rfl rfl) rfl rfl rc1 rfl (nl rfl) (ro_at hr' (by unfold ir; omega)) ?_
  rintro _ hx9 ⟨rfl, hhx9⟩
  have hhx9 := hhx9.symm
  subst hhx9
  show x_X _ 22 [some (.inr (some 1)), some (.inr (some a)), some (.inl nn), some (.inl gg), some (.inl kk), o5] [.inl (atL l kk)] _ _
  refine xx (xs_istore dm_Sc_typeOf_22 (by decide)) ?_
  show x_X _ 24 [some (.inr (some 1)), some (.inr (some a)), some (.inl nn), some (.inl gg), some (.inl kk), some (.inl (atL l kk))] [] _ _
  refine xx (xs_iload dm_Sc_typeOf_24 rfl) ?_
  refine xx (xs_bipush dm_Sc_typeOf_26 (by decide)) ?_
  refine xx (xs_icmp_ne_t (tgt := 37) dm_Sc_typeOf_28 rfl i0 (by unfold ir; omega) (by omega)) ?_
  refine xx (xs_iload dm_Sc_typeOf_37 rfl) ?_
  refine xx (xs_bipush dm_Sc_typeOf_39 (by decide)) ?_
  refine xx (xs_icmp_ne_t (tgt := 98) dm_Sc_typeOf_41 rfl i0 (by unfold ir; omega) (by omega)) ?_
  refine xx (xs_iload dm_Sc_typeOf_98 rfl) ?_
  refine xx (xs_bipush dm_Sc_typeOf_100 (by decide)) ?_
  refine xx (xs_icmp_lt_f (tgt := 117) dm_Sc_typeOf_102 rfl i0 (by unfold ir; omega) (by omega)) ?_
  refine xx (xs_aload_n dm_Sc_typeOf_105 rfl) ?_
  refine xx (xs_aload_n dm_Sc_typeOf_106 rfl) ?_
  refine xx (xs_iload dm_Sc_typeOf_107 rfl) ?_
  refine xx (xs_iload_n dm_Sc_typeOf_109 rfl) ?_
  refine xx (xs_iload_n dm_Sc_typeOf_110 rfl) ?_
  refine xcV (as := [.inr (some a), .inl kk, .inl gg, .inl nn]) (rest := []) dm_Sc_typeOf_111 lc_Sc_putLeafType lm_Sc_69 li_Sc_putLeafType (nr rfl rfl) rfl rfl c1 rfl (nl rfl) (sc_leaf1 (x := 11) (y := m) (post := r) hp hr' hkk hnn (by omega) hk (by rw [e]; simp) tc (Or.inr ⟨rfl, by omega⟩) (by omega) ha) ?_
  rintro _ h2 ⟨rfl, hp2, g2⟩
  show x_X _ 114 [some (.inr (some 1)), some (.inr (some a)), some (.inl nn), some (.inl gg), some (.inl kk), some (.inl (atL l kk))] [] _ _
  refine xx (xs_goto (tgt := 123) dm_Sc_typeOf_114 rfl) ?_
  refine xx (xs_aload_n dm_Sc_typeOf_123 rfl) ?_
  refine xcV (as := []) (rest := []) dm_Sc_typeOf_124 lc_Sc_finishedRow lm_Sc_32 li_Sc_finishedRow (nr rfl rfl) rfl rfl (scP_c hp2).choose_spec rfl (nl rfl) (sc_finishedRow hp2 (gr_len (gr_e hg (gr_pe g2) (Nat.le_refl _) (Nat.le_refl _)) h16)) ?_
  rintro _ h9 ⟨⟨b9, rfl, g9, w9⟩, p9⟩
  show x_X _ 127 [some (.inr (some 1)), some (.inr (some a)), some (.inl nn), some (.inl gg), some (.inl kk), some (.inl (atL l kk))] [.inr (some b9)] _ _
  exact ⟨_, _, xb_a dm_Sc_typeOf_127 rfl (Or.inl ⟨_, rfl⟩), ⟨b9, rfl, gr_e (gr_e hg (gr_pe g2) (Nat.le_refl _) (Nat.le_refl _)) (gr_pe g9) (by omega) (by omega), w9⟩, p9, scB_0 (scB_p (scB_p hB g2) g9)⟩
theorem aps_eq {c res : List Int} (tc : isTy c) : ∀ {n : Nat}, aps (0 :: (c ++ (0 :: (c ++ [1])))) n res → n ≤ 2 ∧ res = eqT c n := by
  intro n h
  cases n with
  | zero => exact ⟨by omega, h.symm⟩
  | succ n =>
    obtain ⟨c1, b1, t1, t2, e, h'⟩ := h
    obtain ⟨e1, e2⟩ := isTy_fi tc t1 e
    rw [← e2] at h'
    cases n with
    | zero => exact ⟨by omega, h'.symm⟩
    | succ n =>
      obtain ⟨c2, b2, t3, t4, e', h''⟩ := h'
      obtain ⟨e3, e4⟩ := isTy_fi tc t3 e'
      rw [← e4] at h''
      cases n with
      | zero => exact ⟨by omega, h''.symm⟩
      | succ n =>
        obtain ⟨c3, b3, t5, t6, e'', -⟩ := h''
        simp at e''
set_option maxHeartbeats 4000000 in
set_option maxRecDepth 100000 in
theorem to_e {h0 : xH} {a : Nat} {l : List Int} (h16 : 23 ≤ h0.1.length) (hl : l.length ≤ 40) {G : List (List Int)} {c : List Int} (tc : isTy c) : toP h0 a l G (11 :: 0 :: c) (0 :: (c ++ (0 :: (c ++ [1])))) := by
  intro k n pre r res w h kk nn gg o5 e hk hkk hnn hgg ha hn hG hp hB hr hg
  obtain ⟨hn2, hres⟩ := aps_eq tc ha
  subst hres
  have hr' := hr
  have l1 := rwA_len hr
  have c1 := scP_1 hp
  have i0 := atL_ir hr.2.1 kk
  have hx0 : l[k]? = some (11) := by rw [e, List.getElem?_append_right (by omega)]; simp [hk]
  have hkl := (List.getElem?_eq_some_iff.mp hx0).1
  have e1 : atL l kk = 11 := by rw [hkk]; exact atL_n hx0
  obtain ⟨ra1, ri1, s1, f1, A1, rs1, rc1, rd1, rl1, rf1, rg1⟩ := hr
  refine xx (xs_iload dm_Sc_typeOf_7 rfl) ?_
  refine xx (xs_aload_n dm_Sc_typeOf_9 rfl) ?_
  refine xx (xs_getf dm_Sc_typeOf_10 lf_Sc_47 rc1 rfl) ?_
  refine xx (xs_icmp_ge_f (tgt := 123) dm_Sc_typeOf_13 rfl (by unfold ir; omega) (by unfold ir; omega) (by omega)) ?_
  refine xx (xs_aload_n dm_Sc_typeOf_16 rfl) ?_
  refine xx (xs_iload dm_Sc_typeOf_17 rfl) ?_
  refine xcV (as := [.inl kk]) (rest := []) dm_Sc_typeOf_19 lc_Ro_at lm_Sc_51 li_Ro_at (nr rfl rfl) rfl rfl rc1 rfl (nl rfl) (ro_at hr' (by unfold ir; omega)) ?_
  rintro _ hx9 ⟨rfl, hhx9⟩
  have hhx9 := hhx9.symm
  subst hhx9
  show x_X _ 22 [some (.inr (some 1)), some (.inr (some a)), some (.inl nn), some (.inl gg), some (.inl kk), o5] [.inl (atL l kk)] _ _
  refine xx (xs_istore dm_Sc_typeOf_22 (by decide)) ?_
  show x_X _ 24 [some (.inr (some 1)), some (.inr (some a)), some (.inl nn), some (.inl gg), some (.inl kk), some (.inl (atL l kk))] [] _ _
  refine xx (xs_iload dm_Sc_typeOf_24 rfl) ?_
  refine xx (xs_bipush dm_Sc_typeOf_26 (by decide)) ?_
  refine xx (xs_icmp_ne_t (tgt := 37) dm_Sc_typeOf_28 rfl i0 (by unfold ir; omega) (by omega)) ?_
  refine xx (xs_iload dm_Sc_typeOf_37 rfl) ?_
  refine xx (xs_bipush dm_Sc_typeOf_39 (by decide)) ?_
  refine xx (xs_icmp_ne_t (tgt := 98) dm_Sc_typeOf_41 rfl i0 (by unfold ir; omega) (by omega)) ?_
  refine xx (xs_iload dm_Sc_typeOf_98 rfl) ?_
  refine xx (xs_bipush dm_Sc_typeOf_100 (by decide)) ?_
  refine xx (xs_icmp_lt_f (tgt := 117) dm_Sc_typeOf_102 rfl i0 (by unfold ir; omega) (by omega)) ?_
  refine xx (xs_aload_n dm_Sc_typeOf_105 rfl) ?_
  refine xx (xs_aload_n dm_Sc_typeOf_106 rfl) ?_
  refine xx (xs_iload dm_Sc_typeOf_107 rfl) ?_
  refine xx (xs_iload_n dm_Sc_typeOf_109 rfl) ?_
  refine xx (xs_iload_n dm_Sc_typeOf_110 rfl) ?_
  refine xcV (as := [.inr (some a), .inl kk, .inl gg, .inl nn]) (rest := []) dm_Sc_typeOf_111 lc_Sc_putLeafType lm_Sc_69 li_Sc_putLeafType (nr rfl rfl) rfl rfl c1 rfl (nl rfl) (sc_leaf2 (x := 11) (y := 0) (post := r) (res := []) hp hr' hkk hnn (by omega) hk (by rw [e]; simp) tc ⟨rfl, rfl⟩ hn2) ?_
  rintro _ h2 ⟨rfl, hp2, g2⟩
  show x_X _ 114 [some (.inr (some 1)), some (.inr (some a)), some (.inl nn), some (.inl gg), some (.inl kk), some (.inl (atL l kk))] [] _ _
  refine xx (xs_goto (tgt := 123) dm_Sc_typeOf_114 rfl) ?_
  refine xx (xs_aload_n dm_Sc_typeOf_123 rfl) ?_
  refine xcV (as := []) (rest := []) dm_Sc_typeOf_124 lc_Sc_finishedRow lm_Sc_32 li_Sc_finishedRow (nr rfl rfl) rfl rfl (scP_c hp2).choose_spec rfl (nl rfl) (sc_finishedRow hp2 (gr_len (gr_e hg (gr_pe g2) (Nat.le_refl _) (Nat.le_refl _)) h16)) ?_
  rintro _ h9 ⟨⟨b9, rfl, g9, w9⟩, p9⟩
  show x_X _ 127 [some (.inr (some 1)), some (.inr (some a)), some (.inl nn), some (.inl gg), some (.inl kk), some (.inl (atL l kk))] [.inr (some b9)] _ _
  exact ⟨_, _, xb_a dm_Sc_typeOf_127 rfl (Or.inl ⟨_, rfl⟩), ⟨b9, rfl, gr_e (gr_e hg (gr_pe g2) (Nat.le_refl _) (Nat.le_refl _)) (gr_pe g9) (by omega) (by omega), w9⟩, p9, scB_0 (scB_p (scB_p hB g2) g9)⟩
set_option maxHeartbeats 4000000 in
set_option maxRecDepth 100000 in
theorem to_b {h0 : xH} {a : Nat} {l : List Int} (h16 : 23 ≤ h0.1.length) (hl : l.length ≤ 40) {G : List (List Int)} {d : Nat} {c : List Int} (hd : G[d]? = some c) : toP h0 a l G [20 + (d : Int)] c := by
  intro k n pre r res w h kk nn gg o5 e hk hkk hnn hgg ha hn hG hp hB hr hg
  have hr' := hr
  have l1 := rwA_len hr
  have c1 := scP_1 hp
  have i0 := atL_ir hr.2.1 kk
  have hx0 : l[k]? = some (20 + (d : Int)) := by rw [e, List.getElem?_append_right (by omega)]; simp [hk]
  have hkl := (List.getElem?_eq_some_iff.mp hx0).1
  have e1 : atL l kk = 20 + (d : Int) := by rw [hkk]; exact atL_n hx0
  obtain ⟨ra1, ri1, s1, f1, A1, rs1, rc1, rd1, rl1, rf1, rg1⟩ := hr
  refine xx (xs_iload dm_Sc_typeOf_7 rfl) ?_
  refine xx (xs_aload_n dm_Sc_typeOf_9 rfl) ?_
  refine xx (xs_getf dm_Sc_typeOf_10 lf_Sc_47 rc1 rfl) ?_
  refine xx (xs_icmp_ge_f (tgt := 123) dm_Sc_typeOf_13 rfl (by unfold ir; omega) (by unfold ir; omega) (by omega)) ?_
  refine xx (xs_aload_n dm_Sc_typeOf_16 rfl) ?_
  refine xx (xs_iload dm_Sc_typeOf_17 rfl) ?_
  refine xcV (as := [.inl kk]) (rest := []) dm_Sc_typeOf_19 lc_Ro_at lm_Sc_51 li_Ro_at (nr rfl rfl) rfl rfl rc1 rfl (nl rfl) (ro_at hr' (by unfold ir; omega)) ?_
  rintro _ hx9 ⟨rfl, hhx9⟩
  have hhx9 := hhx9.symm
  subst hhx9
  show x_X _ 22 [some (.inr (some 1)), some (.inr (some a)), some (.inl nn), some (.inl gg), some (.inl kk), o5] [.inl (atL l kk)] _ _
  refine xx (xs_istore dm_Sc_typeOf_22 (by decide)) ?_
  show x_X _ 24 [some (.inr (some 1)), some (.inr (some a)), some (.inl nn), some (.inl gg), some (.inl kk), some (.inl (atL l kk))] [] _ _
  refine xx (xs_iload dm_Sc_typeOf_24 rfl) ?_
  refine xx (xs_bipush dm_Sc_typeOf_26 (by decide)) ?_
  refine xx (xs_icmp_ne_t (tgt := 37) dm_Sc_typeOf_28 rfl i0 (by unfold ir; omega) (by omega)) ?_
  refine xx (xs_iload dm_Sc_typeOf_37 rfl) ?_
  refine xx (xs_bipush dm_Sc_typeOf_39 (by decide)) ?_
  refine xx (xs_icmp_ne_t (tgt := 98) dm_Sc_typeOf_41 rfl i0 (by unfold ir; omega) (by omega)) ?_
  refine xx (xs_iload dm_Sc_typeOf_98 rfl) ?_
  refine xx (xs_bipush dm_Sc_typeOf_100 (by decide)) ?_
  refine xx (xs_icmp_lt_f (tgt := 117) dm_Sc_typeOf_102 rfl i0 (by unfold ir; omega) (by omega)) ?_
  refine xx (xs_aload_n dm_Sc_typeOf_105 rfl) ?_
  refine xx (xs_aload_n dm_Sc_typeOf_106 rfl) ?_
  refine xx (xs_iload dm_Sc_typeOf_107 rfl) ?_
  refine xx (xs_iload_n dm_Sc_typeOf_109 rfl) ?_
  refine xx (xs_iload_n dm_Sc_typeOf_110 rfl) ?_
  refine xcV (as := [.inr (some a), .inl kk, .inl gg, .inl nn]) (rest := []) dm_Sc_typeOf_111 lc_Sc_putLeafType lm_Sc_69 li_Sc_putLeafType (nr rfl rfl) rfl rfl c1 rfl (nl rfl) (sc_leaf3 (d := d) (post := r) hp hr' hB hkk hnn (by omega) hk (by rw [e]; simp) hd hgg (by omega) ha) ?_
  rintro _ h2 ⟨rfl, hp2, g2⟩
  show x_X _ 114 [some (.inr (some 1)), some (.inr (some a)), some (.inl nn), some (.inl gg), some (.inl kk), some (.inl (atL l kk))] [] _ _
  refine xx (xs_goto (tgt := 123) dm_Sc_typeOf_114 rfl) ?_
  refine xx (xs_aload_n dm_Sc_typeOf_123 rfl) ?_
  refine xcV (as := []) (rest := []) dm_Sc_typeOf_124 lc_Sc_finishedRow lm_Sc_32 li_Sc_finishedRow (nr rfl rfl) rfl rfl (scP_c hp2).choose_spec rfl (nl rfl) (sc_finishedRow hp2 (gr_len (gr_e hg (gr_pe g2) (Nat.le_refl _) (Nat.le_refl _)) h16)) ?_
  rintro _ h9 ⟨⟨b9, rfl, g9, w9⟩, p9⟩
  show x_X _ 127 [some (.inr (some 1)), some (.inr (some a)), some (.inl nn), some (.inl gg), some (.inl kk), some (.inl (atL l kk))] [.inr (some b9)] _ _
  exact ⟨_, _, xb_a dm_Sc_typeOf_127 rfl (Or.inl ⟨_, rfl⟩), ⟨b9, rfl, gr_e (gr_e hg (gr_pe g2) (Nat.le_refl _) (Nat.le_refl _)) (gr_pe g9) (by omega) (by omega), w9⟩, p9, scB_0 (scB_p (scB_p hB g2) g9)⟩
set_option maxHeartbeats 4000000 in
set_option maxRecDepth 100000 in
theorem to_a {h0 : xH} {a : Nat} {l : List Int} (h16 : 23 ≤ h0.1.length) (hl : l.length ≤ 40) {G : List (List Int)} {f x s b : List Int} (ts : isTy s) (tb : isTy b) (hP : toP h0 a l G f (0 :: (s ++ b))) : toP h0 a l G (12 :: (f ++ x)) b := by
  intro k n pre r res w h kk nn gg o5 e hk hkk hnn hgg ha hn hG hp hB hr hg
  have hr' := hr
  have l1 := rwA_len hr
  have c1 := scP_1 hp
  have i0 := atL_ir hr.2.1 kk
  have hx0 : l[k]? = some (12) := by rw [e, List.getElem?_append_right (by omega)]; simp [hk]
  have hkl := (List.getElem?_eq_some_iff.mp hx0).1
  have e1 : atL l kk = 12 := by rw [hkk]; exact atL_n hx0
  obtain ⟨ra1, ri1, s1, f1, A1, rs1, rc1, rd1, rl1, rf1, rg1⟩ := hr
  refine xx (xs_iload dm_Sc_typeOf_7 rfl) ?_
  refine xx (xs_aload_n dm_Sc_typeOf_9 rfl) ?_
  refine xx (xs_getf dm_Sc_typeOf_10 lf_Sc_47 rc1 rfl) ?_
  refine xx (xs_icmp_ge_f (tgt := 123) dm_Sc_typeOf_13 rfl (by unfold ir; omega) (by unfold ir; omega) (by omega)) ?_
  refine xx (xs_aload_n dm_Sc_typeOf_16 rfl) ?_
  refine xx (xs_iload dm_Sc_typeOf_17 rfl) ?_
  refine xcV (as := [.inl kk]) (rest := []) dm_Sc_typeOf_19 lc_Ro_at lm_Sc_51 li_Ro_at (nr rfl rfl) rfl rfl rc1 rfl (nl rfl) (ro_at hr' (by unfold ir; omega)) ?_
  rintro _ hx9 ⟨rfl, hhx9⟩
  have hhx9 := hhx9.symm
  subst hhx9
  show x_X _ 22 [some (.inr (some 1)), some (.inr (some a)), some (.inl nn), some (.inl gg), some (.inl kk), o5] [.inl (atL l kk)] _ _
  refine xx (xs_istore dm_Sc_typeOf_22 (by decide)) ?_
  show x_X _ 24 [some (.inr (some 1)), some (.inr (some a)), some (.inl nn), some (.inl gg), some (.inl kk), some (.inl (atL l kk))] [] _ _
  refine xx (xs_iload dm_Sc_typeOf_24 rfl) ?_
  refine xx (xs_bipush dm_Sc_typeOf_26 (by decide)) ?_
  refine xx (xs_icmp_ne_f (tgt := 37) dm_Sc_typeOf_28 rfl i0 (by unfold ir; omega) (by omega)) ?_
  refine xx (xs_iinc dm_Sc_typeOf_31 rfl (by decide)) ?_
  show x_X _ 34 [some (.inr (some 1)), some (.inr (some a)), some (.inl (nn + 1)), some (.inl gg), some (.inl kk), some (.inl (atL l kk))] [] _ _
  refine xx (xs_goto (tgt := 117) dm_Sc_typeOf_34 rfl) ?_
  refine xx (xs_iinc dm_Sc_typeOf_117 rfl (by decide)) ?_
  show x_X _ 120 [some (.inr (some 1)), some (.inr (some a)), some (.inl (nn + 1)), some (.inl gg), some (.inl (kk + 1)), some (.inl (atL l kk))] [] _ _
  refine xx (xs_goto (tgt := 7) dm_Sc_typeOf_120 rfl) ?_
  exact hP (k + 1) (n + 1) (pre ++ [12]) (x ++ r) res w h _ _ _ _ (by rw [e]; simp) (by simp; omega) (by omega) (by omega) hgg ⟨s, b, ts, tb, rfl, ha⟩ (by omega) (by omega) hp hB hr' (gr_w hg (fun _ _ e => e) (by omega) (by omega))
