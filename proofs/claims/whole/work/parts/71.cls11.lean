set_option maxHeartbeats 4000000 in
set_option maxRecDepth 100000 in
theorem to_l {h0 : xH} {a : Nat} {l : List Int} (h16 : 23 ≤ h0.1.length) (hl : l.length ≤ 40) {G : List (List Int)} {c u b : List Int} (tc : isTy c) (tb : isTy b) (hP : toP h0 a l (c :: G) u b) : toP h0 a l G (13 :: (c ++ u)) (0 :: (c ++ b)) := by
  intro k n pre r res w h kk nn gg o5 e hk hkk hnn hgg ha hn hG hp hB hr hg
  have hr' := hr
  have l1 := rwA_len hr
  have c1 := scP_1 hp
  have i0 := atL_ir hr.2.1 kk
  have hx0 : l[k]? = some (13) := by rw [e, List.getElem?_append_right (by omega)]; simp [hk]
  have hkl := (List.getElem?_eq_some_iff.mp hx0).1
  have e1 : atL l kk = 13 := by rw [hkk]; exact atL_n hx0
  obtain ⟨bi, b1, c5, b3⟩ := hB
  have hlen : l.length = pre.length + (1 + c.length + u.length) + r.length := by rw [e]; simp; omega
  have e2 : l = (pre ++ [13]) ++ (c ++ (u ++ r)) := by rw [e]; simp
  have hskip : ∀ i, i < c.length → ∃ x, l[k + 1 + i]? = some x ∧ x < 10 := fun i hi => by
    refine ⟨c[i], ?_, isTy_low tc _ (List.getElem_mem hi)⟩
    rw [e2, List.getElem?_append_right (by simp; omega), List.getElem?_append_left (by simp; omega), List.getElem?_eq_getElem (by simp; omega)]
    congr 2
    simp
    omega
  obtain ⟨ra1, ri1, s1, f1, A1, rs1, rc1, rd1, rl1, rf1, rg1⟩ := hr
  refine xx (xs_iload dm_Sc_typeOf_7 rfl) ?_
  refine xx (xs_aload_n dm_Sc_typeOf_9 rfl) ?_
  refine xx (xs_getf dm_Sc_typeOf_10 lf_Sc_47 rc1 rfl) ?_
  refine xx (xs_icmp_ge_f (tgt := 123) dm_Sc_typeOf_13 rfl (by unfold ir; omega) (by unfold ir; omega) (by omega)) ?_
  refine xx (xs_aload_n dm_Sc_typeOf_16 rfl) ?_
  refine xx (xs_iload dm_Sc_typeOf_17 rfl) ?_
  refine xcV (as := [.inl kk]) (rest := []) dm_Sc_typeOf_19 lc_Ro_at lm_Sc_51 li_Ro_at (nr rfl rfl) rfl rfl rc1 rfl (nl rfl) (ro_at hr' (by unfold ir; omega)) ?_
  rintro _ hx9 ⟨rfl, hhx9⟩
  have hhx9 := hhx9.symm
  subst hhx9
  show x_X _ 22 [some (.inr (some 1)), some (.inr (some a)), some (.inl nn), some (.inl gg), some (.inl kk), o5] [.inl (atL l kk)] _ _
  refine xx (xs_istore dm_Sc_typeOf_22 (by decide)) ?_
  show x_X _ 24 [some (.inr (some 1)), some (.inr (some a)), some (.inl nn), some (.inl gg), some (.inl kk), some (.inl (atL l kk))] [] _ _
  refine xx (xs_iload dm_Sc_typeOf_24 rfl) ?_
  refine xx (xs_bipush dm_Sc_typeOf_26 (by decide)) ?_
  refine xx (xs_icmp_ne_t (tgt := 37) dm_Sc_typeOf_28 rfl i0 (by unfold ir; omega) (by omega)) ?_
  refine xx (xs_iload dm_Sc_typeOf_37 rfl) ?_
  refine xx (xs_bipush dm_Sc_typeOf_39 (by decide)) ?_
  refine xx (xs_icmp_ne_f (tgt := 98) dm_Sc_typeOf_41 rfl i0 (by unfold ir; omega) (by omega)) ?_
  refine xx (xs_iload_n dm_Sc_typeOf_44 rfl) ?_
  refine xx (xs_aload_n dm_Sc_typeOf_45 rfl) ?_
  refine xx (xs_getf dm_Sc_typeOf_46 lf_Sc_24 c1 rfl) ?_
  refine xx (xs_alenR dm_Sc_typeOf_49 (by decide) c5) ?_
  refine xx (xs_icmp_ge_f (tgt := 98) dm_Sc_typeOf_50 rfl (by unfold ir; omega) (by unfold ir; omega) (by omega)) ?_
  refine xx (xs_aload_n dm_Sc_typeOf_53 rfl) ?_
  refine xx (xs_getf dm_Sc_typeOf_54 lf_Sc_24 c1 rfl) ?_
  refine xx (xs_iload_n dm_Sc_typeOf_57 rfl) ?_
  refine xx (xs_aload_n dm_Sc_typeOf_58 rfl) ?_
  refine xx (xs_iload dm_Sc_typeOf_59 rfl) ?_
  refine xx (xs_iconst dm_Sc_typeOf_61) ?_
  refine xx (xs_iadd dm_Sc_typeOf_62) ?_
  refine xcV (as := [.inl (kk + 1)]) (rest := [.inl gg, .inr (some 5)]) dm_Sc_typeOf_63 lc_Ro_typeAt lm_Sc_40 li_Ro_typeAt (nr rfl rfl) rfl rfl rc1 rfl (nl rfl) (ro_typeAt (pre := pre ++ [13]) (post := u ++ r) hr' e2 tc (by simp; omega)) ?_
  rintro _ h2 ⟨b2, rfl, g2, w2⟩
  show x_X _ 66 [some (.inr (some 1)), some (.inr (some a)), some (.inl nn), some (.inl gg), some (.inl kk), some (.inl (atL l kk))] [.inr (some b2), .inl gg, .inr (some 5)] _ _
  have c1 := g2.2 _ _ (fun e => e) c1
  have c5 := g2.2 _ _ (fun e => e) c5
  have w2' := w2
  obtain ⟨ra2, ri2, s2, f2, A2, rs2, rc2, rd2, -⟩ := w2
  refine xx (xs_aast dm_Sc_typeOf_66 (by decide) c5 rc2 rfl (by omega) (by omega) (by omega)) ?_
  obtain ⟨h3, hh3⟩ : ∃ hX : xH, hX = (h2.1.set 5 (.inr (.inl (0, bi.set gg.toNat (some b2)))), h2.2) := ⟨_, rfl⟩
  show x_X _ 67 [some (.inr (some 1)), some (.inr (some a)), some (.inl nn), some (.inl gg), some (.inl kk), some (.inl (atL l kk))] [] (h2.1.set 5 (.inr (.inl (0, bi.set gg.toNat (some b2)))), h2.2) _
  rw [← hh3]
  have g3 : gr pE 0 0 h2 h3 := gr_w (hh3 ▸ gr_set) (fun i _ e => Or.inr (Or.inr e)) (Nat.le_refl _) (Nat.le_refl _)
  have c1 : h3.1[1]? = some (.inr (.inr (5, [.inr (some 2), .inl ((min w.length 81 : Nat) : Int), .inr (some 3), .inr (some 5)]))) := by rw [hh3]; exact set_kp c1 c5 (by simp)
  have c5_o := c5
  have c5 : h3.1[5]? = some (.inr (.inl (0, bi.set gg.toNat (some b2)))) := by rw [hh3]; exact set_at c5_o
  have G3 : gr pE (k + 1) (3 * k + 3) h0 h3 := gr_e (gr_e hg (gr_fe g2) (Nat.le_refl _) (Nat.le_refl _)) g3 (Nat.le_refl _) (Nat.le_refl _)
  have gh3 : gr pE 1 3 h h3 := gr_e (gr_fe g2) g3 (Nat.le_refl _) (Nat.le_refl _)
  have hr3 := rwA_e hr' gh3
  have hb3 : rwA h3 b2 c := rwA_e w2' g3
  have gset : gr (fun i => i = 5) 0 0 h2 h3 := hh3 ▸ gr_set
  have hp3 : scP h3 w := scP_gr (scP_f hp g2) gset (by omega) (by omega)
  have hgt : gg.toNat = G.length := by omega
  have hbl : (bi.set gg.toNat (some b2)).length = 40 := by simp; exact b1
  have hB3 : scB h3 (c :: G) := by
    refine ⟨_, by simp; exact b1, c5, fun d y hy => ?_⟩
    cases d with
    | zero =>
      have hy' : c = y := by simpa using hy
      subst hy'
      exact ⟨b2, by rw [hgt, show (c :: G).length - 1 - 0 = G.length by simp, List.getElem?_set_self (by omega)], hb3⟩
    | succ d =>
      have hy' : G[d]? = some y := by simpa using hy
      have hdl := (List.getElem?_eq_some_iff.mp hy').1
      obtain ⟨q, q1, q2⟩ := b3 d y hy'
      refine ⟨q, ?_, rwA_e q2 gh3⟩
      rw [hgt, show (c :: G).length - 1 - (d + 1) = G.length - 1 - d by simp; omega, List.getElem?_set_ne (by omega)]
      exact q1
  refine xx (xs_iload_n dm_Sc_typeOf_67 rfl) ?_
  refine xx_if_le (tgt := 77) dm_Sc_typeOf_68 rfl (by unfold ir; omega) (fun hc => ?_) (fun hc => ?_)
  · change x_X _ 77 _ _ _ _
    have hn0 : n = 0 := by omega
    subst hn0
    have ha' : (0 :: (c ++ b)) = res := ha
    subst ha'
    refine xx (xs_aload_n dm_Sc_typeOf_77 rfl) ?_
    refine xx (xs_iconst dm_Sc_typeOf_78) ?_
    refine xcV (as := [.inl 0]) (rest := []) dm_Sc_typeOf_79 lc_Sc_put lm_Sc_28 li_Sc_put (nr rfl rfl) rfl rfl c1 rfl (nl rfl) (sc_put hp3 (by unfold ir; omega)) ?_
    rintro _ h4 ⟨rfl, hp4, g4⟩
    show x_X _ 82 [some (.inr (some 1)), some (.inr (some a)), some (.inl nn), some (.inl gg), some (.inl kk), some (.inl (atL l kk))] [] _ _
    have c1 := scP_1 hp4
    have c5 := g4.2 _ _ (fun e => by rcases e with e | e <;> omega) c5
    refine xx (xs_aload_n dm_Sc_typeOf_82 rfl) ?_
    refine xx (xs_aload_n dm_Sc_typeOf_83 rfl) ?_
    refine xx (xs_getf dm_Sc_typeOf_84 lf_Sc_24 c1 rfl) ?_
    refine xx (xs_iload_n dm_Sc_typeOf_87 rfl) ?_
    refine xx (xs_aald (x := (some b2)) dm_Sc_typeOf_88 (by decide) c5 (by omega) (by rw [List.getElem?_set_self (by omega)]) (by omega)) ?_
    refine xcV (as := [.inr (some b2)]) (rest := []) dm_Sc_typeOf_89 lc_Sc_putRow lm_Sc_36 li_Sc_putRow (nr rfl rfl) rfl rfl c1 rfl (nl rfl) (sc_putRow hp4 (rwA_p hb3 g4)) ?_
    rintro _ h5 ⟨rfl, hp5, g5⟩
    show x_X _ 92 [some (.inr (some 1)), some (.inr (some a)), some (.inl nn), some (.inl gg), some (.inl kk), some (.inl (atL l kk))] [] _ _
    refine xx (xs_iinc dm_Sc_typeOf_92 rfl (by decide)) ?_
    show x_X _ 95 [some (.inr (some 1)), some (.inr (some a)), some (.inl nn), some (.inl (gg + 1)), some (.inl kk), some (.inl (atL l kk))] [] _ _
    refine xx (xs_goto (tgt := 117) dm_Sc_typeOf_95 rfl) ?_
    refine xx (xs_iinc dm_Sc_typeOf_117 rfl (by decide)) ?_
    show x_X _ 120 [some (.inr (some 1)), some (.inr (some a)), some (.inl nn), some (.inl (gg + 1)), some (.inl (kk + 1)), some (.inl (atL l kk))] [] _ _
    refine xx (xs_goto (tgt := 7) dm_Sc_typeOf_120 rfl) ?_
    refine sc_skip_l (rwA_p (rwA_p hr3 g4) g5) c.length (k + 1) _ _ (by omega) hskip (fun kk' o5' hk' => ?_)
    have hfin := hP (k + 1 + c.length) 0 (pre ++ [13] ++ c) r b (w ++ [0] ++ c) h5 kk' nn (gg + 1) o5' (by rw [e]; simp) (by simp; omega) hk' (by omega) (by simp; omega) rfl (by omega) (by simp; omega) hp5 (scB_p (scB_p hB3 g4) g5) (rwA_p (rwA_p hr3 g4) g5) (gr_w (gr_e (gr_e G3 (gr_pe g4) (Nat.le_refl _) (Nat.le_refl _)) (gr_pe g5) (Nat.le_refl _) (Nat.le_refl _)) (fun _ _ e => e) (by omega) (by omega))
    rw [show w ++ [0] ++ c ++ b = w ++ (0 :: (c ++ b)) by simp] at hfin
    exact hfin
  · change x_X _ 71 _ _ _ _
    obtain ⟨m, hm⟩ : ∃ m, n = m + 1 := ⟨n - 1, by omega⟩
    subst hm
    obtain ⟨c', b', t1, t2, e', ha'⟩ := ha
    obtain ⟨e3, e4⟩ := isTy_fi tc t1 e'
    rw [← e4] at ha'
    refine xx (xs_iinc dm_Sc_typeOf_71 rfl (by decide)) ?_
    show x_X _ 74 [some (.inr (some 1)), some (.inr (some a)), some (.inl (nn + (-1))), some (.inl gg), some (.inl kk), some (.inl (atL l kk))] [] _ _
    refine xx (xs_goto (tgt := 92) dm_Sc_typeOf_74 rfl) ?_
    refine xx (xs_iinc dm_Sc_typeOf_92 rfl (by decide)) ?_
    show x_X _ 95 [some (.inr (some 1)), some (.inr (some a)), some (.inl (nn + (-1))), some (.inl (gg + 1)), some (.inl kk), some (.inl (atL l kk))] [] _ _
    refine xx (xs_goto (tgt := 117) dm_Sc_typeOf_95 rfl) ?_
    refine xx (xs_iinc dm_Sc_typeOf_117 rfl (by decide)) ?_
    show x_X _ 120 [some (.inr (some 1)), some (.inr (some a)), some (.inl (nn + (-1))), some (.inl (gg + 1)), some (.inl (kk + 1)), some (.inl (atL l kk))] [] _ _
    refine xx (xs_goto (tgt := 7) dm_Sc_typeOf_120 rfl) ?_
    refine sc_skip_l hr3 c.length (k + 1) _ _ (by omega) hskip (fun kk' o5' hk' => ?_)
    exact hP (k + 1 + c.length) m (pre ++ [13] ++ c) r res w h3 kk' _ _ o5' (by rw [e]; simp) (by simp; omega) hk' (by omega) (by simp; omega) ha' (by omega) (by simp; omega) hp3 hB3 hr3 (gr_w G3 (fun _ _ e => e) (by omega) (by omega))
set_option maxHeartbeats 4000000 in
set_option maxRecDepth 100000 in
theorem to_all {h0 : xH} {a : Nat} {l : List Int} (h16 : 23 ≤ h0.1.length) (hl : l.length ≤ 40) {G : List (List Int)} {t b : List Int} (h : isTm G t b) : toP h0 a l G t b :=
  isTm_ind (P := fun G t b => toP h0 a l G t b) (fun G n c h0' h7 tc => to_v h16 hl ⟨h0', h7⟩ tc) (fun G n c h1 h6 tc => to_c h16 hl ⟨h1, h6⟩ tc) (fun G c tc => to_e h16 hl tc) (fun G d c hd _ => to_b h16 hl hd) (fun G f x s b ts tb _ _ hf _ => to_a h16 hl ts tb hf) (fun G c u b tc tb _ hu => to_l h16 hl tc tb hu) h
set_option maxHeartbeats 4000000 in
set_option maxRecDepth 100000 in
theorem sc_typeOf {h : xH} {a : Nat} {l b : List Int} (hp : scP h []) (hB : scB h []) (hr : rwA h a l) (hl : l.length ≤ 40) (ht : isTm [] l b) : x_Mx mm_Sc_typeOf [.inr (some 1), .inr (some a)] h (fun r hf => nrow pE 90 400 h (b.take 81) r hf ∧ scP hf [] ∧ scB hf []) := by
  refine xmx rfl (nl rfl) ?_
  show x_X _ 0 [some (.inr (some 1)), some (.inr (some a)), none, none, none, none] [] _ _
  refine xx (xs_iconst dm_Sc_typeOf_0) ?_
  refine xx (xs_istore_n dm_Sc_typeOf_1 (by decide)) ?_
  show x_X _ 2 [some (.inr (some 1)), some (.inr (some a)), some (.inl 0), none, none, none] [] _ _
  refine xx (xs_iconst dm_Sc_typeOf_2) ?_
  refine xx (xs_istore_n dm_Sc_typeOf_3 (by decide)) ?_
  show x_X _ 4 [some (.inr (some 1)), some (.inr (some a)), some (.inl 0), some (.inl 0), none, none] [] _ _
  refine xx (xs_iconst dm_Sc_typeOf_4) ?_
  refine xx (xs_istore dm_Sc_typeOf_5 (by decide)) ?_
  show x_X _ 7 [some (.inr (some 1)), some (.inr (some a)), some (.inl 0), some (.inl 0), some (.inl 0), none] [] _ _
  have := to_all (h0 := h) (a := a) (rwA_16 hr) hl ht 0 0 [] [] b [] h 0 0 0 none (by simp) rfl rfl rfl rfl rfl (by omega) (by simp) hp hB hr (gr_rf _ _)
  simpa using this
