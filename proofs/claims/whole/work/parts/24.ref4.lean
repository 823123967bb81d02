/-! the reference's ways through a term -/
theorem drop_hd {t : List Int} {j : Nat} (h : j < t.length) : ∃ s, t[j]? = some s ∧ t.drop j = s :: t.drop (j + 1) := by
  refine ⟨t[j], List.getElem?_eq_getElem h, ?_⟩
  exact List.drop_eq_getElem_cons h
theorem sg_at {q : rS} {p j : Nat} {t : List Int} {s : Int} (h : sg q p t) (hj : t[j]? = some s) : q 0 (p + j) = s := h j s hj
theorem sg_drop {q : rS} {p : Nat} {t : List Int} (j : Nat) (h : sg q p t) : sg q (p + j) (t.drop j) := fun i x hx => by
  rw [List.getElem?_drop] at hx
  rw [← h _ x hx]
  congr 1
  omega
/-- a variable's row: its name and type -/
def vw (n : Int) (c : List Int) : List Int := 10 :: n :: c
theorem vw_ir {n : Int} {c : List Int} (hn : 0 ≤ n ∧ n ≤ 7) (hc : isTy c) : ∀ x ∈ vw n c, ir x := by
  intro x hx
  unfold vw at hx
  rcases List.mem_cons.mp hx with h | h
  · subst h; unfold ir; omega
  rcases List.mem_cons.mp h with h | h
  · subst h; unfold ir; omega
  · exact isTy_ir hc x h
set_option maxHeartbeats 4000000 in
set_option maxRecDepth 100000 in
theorem re_stands {q : rS} {f vf vt : Int} {pt pv j : Nat} {G : List (List Int)} {t a : List Int} {n : Int} {c : List Int} (hs : sg q pt t) (ht : isTm G t a) (hj : j < t.length) (hv : sg q pv (vw n c)) (hc : isTy c) (hn : 0 ≤ n ∧ n ≤ 7) (hf : f = (pt : Int) + (j : Int)) (hvf : vf = pv) (hvt : vt = (pv : Int) + 2 + (c.length : Int)) (h1 : pt + t.length ≤ 10000) (h2 : pv + 2 + c.length ≤ 10000) (hG : G.length ≤ 1000) : rM mm_Re_stands [.inl f, .inl vf, .inl vt] q (fun r q' => r = some (.inl (if (vw n c).isPrefixOf (t.drop j) = true then 1 else 0)) ∧ q' = q) := by
  refine rm rfl (nl rfl) (fun E => ?_)
  obtain ⟨s, hsj, hdj⟩ := drop_hd hj
  have hq := sg_at hs hsj
  have his : ir s := isTm_ir ht (by omega) s (List.mem_of_getElem? hsj)
  show rX E _ 0 [some (.inr (some E.1.length)), some (.inl f), some (.inl vf), some (.inl vt)] [] _ _
  refine rx (xs_aload_n dm_Re_stands_0 rfl) ?_
  refine rx (rg (v := .inr (some (rA E 0))) dm_Re_stands_1 lf_Re_7 rfl) ?_
  refine rx (xs_iload_n dm_Re_stands_4 rfl) ?_
  refine rx (rlv 0 s (by decide) dm_Re_stands_5 (by omega) (by show _ < ((10000 : Nat) : Int); omega) (by rw [← hq]; congr 1; omega)) ?_
  refine rx (xs_bipush dm_Re_stands_6 (by decide)) ?_
  refine xx_icmp_ne (tgt := 32) dm_Re_stands_8 rfl his (by unfold ir; omega) (fun hc1 => ?_) (fun hc1 => ?_)
  · change rX E _ 32 _ _ _ _
    refine rx (xs_iconst dm_Re_stands_32) ?_
    exact rrz dm_Re_stands_33 rfl (Or.inl rfl) ⟨vi (by rw [hdj, vw, pf_n hc1]; rfl), rfl⟩
  · change rX E _ 11 _ _ _ _
    subst hc1
    obtain ⟨m, c2, r, hc2, m0, m7, e⟩ := isTm_10 ht j hsj
    have hsd := sg_drop j hs
    rw [e] at hsd
    have hl := congrArg List.length e
    simp only [List.length_drop, List.length_cons, List.length_append] at hl
    have hs2 := (sg_app.mp (sg_tl (sg_tl hsd))).1
    have hs3 : sg q (pt + j) (vw m c2) := by
      have h9 : sg q (pt + j) (vw m c2 ++ r) := hsd
      exact (sg_app.mp h9).1
    refine rx (xs_aload_n dm_Re_stands_11 rfl) ?_
    refine rx (xs_iload_n dm_Re_stands_12 rfl) ?_
    refine rx (xs_aload_n dm_Re_stands_13 rfl) ?_
    refine rx (xs_iload_n dm_Re_stands_14 rfl) ?_
    refine rx (xs_iconst dm_Re_stands_15) ?_
    refine rx (xs_iadd dm_Re_stands_16) ?_
    refine rcV (as := [.inl (f + 2)]) (rest := [.inl f, .inr (some E.1.length)]) dm_Re_stands_17 lc_Re_skipType lm_Re_36 li_Re_skipType (nr rfl rfl) rfl rfl rfl (nl rfl) (re_skipType hs2 hc2 (by omega) (by omega)) ?_
    rintro _ q1 ⟨rfl, hq1⟩
    have hq1 := hq1.symm
    subst hq1
    show rX E _ 20 [some (.inr (some E.1.length)), some (.inl f), some (.inl vf), some (.inl vt)] [.inl (((pt + j + 1 + 1 : Nat) : Int) + (c2.length : Int)), .inl f, .inr (some E.1.length)] _ _
    refine rx (xs_iload_n dm_Re_stands_20 rfl) ?_
    refine rx (xs_iload_n dm_Re_stands_21 rfl) ?_
    refine rcV (as := [.inl f, .inl (((pt + j + 1 + 1 : Nat) : Int) + (c2.length : Int)), .inl vf, .inl vt]) (rest := []) dm_Re_stands_22 lc_Re_sameRow lm_Re_69 li_Re_sameRow (nr rfl rfl) rfl rfl rfl (nl rfl) (re_sameRow hs3 hv (by omega) (by simp [vw]; omega) hvf (by simp [vw]; omega) (by simp [vw]; omega) (by simp [vw]; omega) (vw_ir ⟨m0, m7⟩ hc2) (vw_ir hn hc)) ?_
    rintro _ q1 ⟨rfl, hq1⟩
    have hq1 := hq1.symm
    subst hq1
    show rX E _ 25 [some (.inr (some E.1.length)), some (.inl f), some (.inl vf), some (.inl vt)] [.inl (if vw m c2 = vw n c then 1 else 0)] _ _
    have hiff : (vw n c).isPrefixOf (t.drop j) = true ↔ vw m c2 = vw n c := by
      rw [e]
      unfold vw
      rw [pf_v hc hc2]
      constructor
      · rintro ⟨e1, e2⟩; rw [e1, e2]
      · intro e1; simp at e1; exact ⟨e1.1.symm, e1.2.symm⟩
    by_cases hE : vw m c2 = vw n c
    · rw [if_pos hE]
      refine rx (xs_if_eq_f (tgt := 32) dm_Re_stands_25 rfl (by unfold ir; omega) (by decide)) ?_
      refine rx (xs_iconst dm_Re_stands_28) ?_
      refine rx (xs_goto (tgt := 33) dm_Re_stands_29 rfl) ?_
      exact rrz dm_Re_stands_33 rfl (Or.inr rfl) ⟨vi (by rw [if_pos (hiff.mpr hE)]), rfl⟩
    · rw [if_neg hE]
      refine rx (xs_if_eq_t (tgt := 32) dm_Re_stands_25 rfl (by unfold ir; omega) rfl) ?_
      refine rx (xs_iconst dm_Re_stands_32) ?_
      exact rrz dm_Re_stands_33 rfl (Or.inl rfl) ⟨vi (by rw [if_neg (fun h => hE (hiff.mp h))]), rfl⟩
/-- the ends of the abstractions that begin ahead of a place -/
def eAt (t : List Int) : Nat → List Nat
  | 0 => []
  | j + 1 => if t[j]? = some 13 then (j + szT (t.drop j)) :: eAt t j else eAt t j
theorem eAt_low {t : List Int} {j : Nat} : ∀ (m : Nat), (∀ i, j ≤ i → i < j + m → t[i]? ≠ some 13) → eAt t (j + m) = eAt t j := by
  intro m
  induction m with
  | zero => intro _; rfl
  | succ m ih =>
    intro h
    have h1 := h (j + m) (by omega) (by omega)
    show eAt t (j + m + 1) = eAt t j
    rw [eAt, if_neg h1]
    exact ih (fun i h2 h3 => h i h2 (by omega))
theorem cnt_c (e : Nat) (E : List Nat) (j : Nat) : cnt (e :: E) j = cnt E j + (if j < e then 1 else 0) := by
  unfold cnt
  by_cases h : j < e
  · simp [h]
  · simp [h]
theorem cnt_le (E : List Nat) (j : Nat) : cnt E j ≤ E.length := List.length_filter_le _ _
theorem eAt_len (t : List Int) (j : Nat) : (eAt t j).length ≤ j := by
  induction j with
  | zero => simp [eAt]
  | succ j ih =>
    unfold eAt
    split
    · simp; omega
    · omega
set_option maxHeartbeats 4000000 in
set_option maxRecDepth 100000 in
theorem re_depth_l {q : rS} {f g : Int} {pt j : Nat} {G : List (List Int)} {t a : List Int} (E : rE) (hs : sg q pt t) (ht : isTm G t a) (hj : j ≤ t.length) (hf : f = pt) (hg : g = (pt : Int) + (j : Int)) (h1 : pt + t.length ≤ 10000) (hG : G.length ≤ 1000) : ∀ (N i : Nat) (nn kk : Int), j - i < N → i ≤ j → nn = (cnt (eAt t i) j : Int) → kk = (pt : Int) + (i : Int) → rX E mm_Re_depth 5 [some (.inr (some E.1.length)), some (.inl f), some (.inl g), some (.inl nn), some (.inl kk)] [] q (fun r q' => r = some (.inl (cnt (eAt t j) j : Int)) ∧ q' = q) := by
  intro N
  induction N with
  | zero => intro i nn kk hN; omega
  | succ N ih =>
    intro i nn kk hN hi hnn hkk
    have hcl := cnt_le (eAt t i) j
    have hel := eAt_len t i
    by_cases hij : i = j
    · subst hij
      refine rx (xs_iload dm_Re_depth_5 rfl) ?_
      refine rx (xs_iload_n dm_Re_depth_7 rfl) ?_
      refine rx (xs_icmp_ge_t (tgt := 47) dm_Re_depth_8 rfl (by unfold ir; omega) (by unfold ir; omega) (by omega)) ?_
      refine rx (xs_iload_n dm_Re_depth_47 rfl) ?_
      exact rri dm_Re_depth_48 rfl ⟨vi hnn, rfl⟩
    · obtain ⟨s, hsj, hdj⟩ := drop_hd (t := t) (j := i) (by omega)
      have hq := sg_at hs hsj
      have his : ir s := isTm_ir ht (by omega) s (List.mem_of_getElem? hsj)
      refine rx (xs_iload dm_Re_depth_5 rfl) ?_
      refine rx (xs_iload_n dm_Re_depth_7 rfl) ?_
      refine rx (xs_icmp_ge_f (tgt := 47) dm_Re_depth_8 rfl (by unfold ir; omega) (by unfold ir; omega) (by omega)) ?_
      refine rx (xs_aload_n dm_Re_depth_11 rfl) ?_
      refine rx (rg (v := .inr (some (rA E 0))) dm_Re_depth_12 lf_Re_7 rfl) ?_
      refine rx (xs_iload dm_Re_depth_15 rfl) ?_
      refine rx (rlv 0 s (by decide) dm_Re_depth_17 (by omega) (by show _ < ((10000 : Nat) : Int); omega) (by rw [← hq]; congr 1; omega)) ?_
      refine rx (xs_bipush dm_Re_depth_18 (by decide)) ?_
      refine xx_icmp_ne (tgt := 41) dm_Re_depth_20 rfl his (by unfold ir; omega) (fun hc => ?_) (fun hc => ?_)
      · change rX E _ 41 _ _ _ _
        refine rx (xs_iinc dm_Re_depth_41 rfl (by decide)) ?_
        show rX E _ 44 [some (.inr (some E.1.length)), some (.inl f), some (.inl g), some (.inl nn), some (.inl (kk + 1))] [] _ _
        refine rx (xs_goto (tgt := 5) dm_Re_depth_44 rfl) ?_
        exact ih (i + 1) _ _ (by omega) (by omega) (by rw [eAt, if_neg (by rw [hsj]; intro h; exact hc (Option.some.inj h))]; exact hnn) (by omega)
      · change rX E _ 23 _ _ _ _
        subst hc
        obtain ⟨D, u, b, r, hu, e, hr, hD⟩ := isTm_13 ht i hsj
        have hsd := sg_drop i hs
        rw [e] at hsd
        have hsu := (sg_app.mp hsd).1
        have hl := congrArg List.length e
        simp only [List.length_drop, List.length_append] at hl
        have hz : szT (t.drop i) = u.length := by rw [e]; exact szT_tm hu hr
        have hE : eAt t (i + 1) = (i + u.length) :: eAt t i := by rw [eAt, if_pos hsj, hz]
        refine rx (xs_iload_n dm_Re_depth_23 rfl) ?_
        refine rx (xs_aload_n dm_Re_depth_24 rfl) ?_
        refine rx (xs_iload dm_Re_depth_25 rfl) ?_
        refine rcV (as := [.inl kk]) (rest := [.inl nn]) dm_Re_depth_27 lc_Re_skipTerm lm_Re_40 li_Re_skipTerm (nr rfl rfl) rfl rfl rfl (nl rfl) (re_skipTerm hsu hu (by omega) (by omega) (by omega)) ?_
        rintro _ q1 ⟨rfl, hq1⟩
        have hq1 := hq1.symm
        subst hq1
        show rX E _ 30 [some (.inr (some E.1.length)), some (.inl f), some (.inl g), some (.inl nn), some (.inl kk)] [.inl (((pt + i : Nat) : Int) + (u.length : Int)), .inl nn] _ _
        refine rx (xs_iload_n dm_Re_depth_30 rfl) ?_
        refine xx_icmp_le (tgt := 38) dm_Re_depth_31 rfl (by unfold ir; omega) (by unfold ir; omega) (fun hc2 => ?_) (fun hc2 => ?_)
        · change rX E _ 38 _ _ _ _
          refine rx (xs_iconst dm_Re_depth_38) ?_
          refine rx (xs_iadd dm_Re_depth_39) ?_
          refine rx (xs_istore_n dm_Re_depth_40 (by decide)) ?_
          show rX E _ 41 [some (.inr (some E.1.length)), some (.inl f), some (.inl g), some (.inl (nn + 0)), some (.inl kk)] [] _ _
          refine rx (xs_iinc dm_Re_depth_41 rfl (by decide)) ?_
          show rX E _ 44 [some (.inr (some E.1.length)), some (.inl f), some (.inl g), some (.inl (nn + 0)), some (.inl (kk + 1))] [] _ _
          refine rx (xs_goto (tgt := 5) dm_Re_depth_44 rfl) ?_
          exact ih (i + 1) _ _ (by omega) (by omega) (by rw [hE, cnt_c, if_neg (by omega)]; omega) (by omega)
        · change rX E _ 34 _ _ _ _
          refine rx (xs_iconst dm_Re_depth_34) ?_
          refine rx (xs_goto (tgt := 39) dm_Re_depth_35 rfl) ?_
          refine rx (xs_iadd dm_Re_depth_39) ?_
          refine rx (xs_istore_n dm_Re_depth_40 (by decide)) ?_
          show rX E _ 41 [some (.inr (some E.1.length)), some (.inl f), some (.inl g), some (.inl (nn + 1)), some (.inl kk)] [] _ _
          refine rx (xs_iinc dm_Re_depth_41 rfl (by decide)) ?_
          show rX E _ 44 [some (.inr (some E.1.length)), some (.inl f), some (.inl g), some (.inl (nn + 1)), some (.inl (kk + 1))] [] _ _
          refine rx (xs_goto (tgt := 5) dm_Re_depth_44 rfl) ?_
          exact ih (i + 1) _ _ (by omega) (by omega) (by rw [hE, cnt_c, if_pos (by omega)]; omega) (by omega)
set_option maxHeartbeats 4000000 in
set_option maxRecDepth 100000 in
theorem re_depth {q : rS} {f g : Int} {pt j : Nat} {G : List (List Int)} {t a : List Int} (hs : sg q pt t) (ht : isTm G t a) (hj : j ≤ t.length) (hf : f = pt) (hg : g = (pt : Int) + (j : Int)) (h1 : pt + t.length ≤ 10000) (hG : G.length ≤ 1000) : rM mm_Re_depth [.inl f, .inl g] q (fun r q' => r = some (.inl (cnt (eAt t j) j : Int)) ∧ q' = q) := by
  refine rm rfl (nl rfl) (fun E => ?_)
  show rX E _ 0 [some (.inr (some E.1.length)), some (.inl f), some (.inl g), none, none] [] _ _
  refine rx (xs_iconst dm_Re_depth_0) ?_
  refine rx (xs_istore_n dm_Re_depth_1 (by decide)) ?_
  show rX E _ 2 [some (.inr (some E.1.length)), some (.inl f), some (.inl g), some (.inl 0), none] [] _ _
  refine rx (xs_iload_n dm_Re_depth_2 rfl) ?_
  refine rx (xs_istore dm_Re_depth_3 (by decide)) ?_
  show rX E _ 5 [some (.inr (some E.1.length)), some (.inl f), some (.inl g), some (.inl 0), some (.inl f)] [] _ _
  exact re_depth_l E hs ht hj hf hg h1 hG (j + 1) 0 _ _ (by omega) (by omega) rfl (by omega)
theorem absR_hit {n : Int} {c t r : List Int} {j : Nat} (hn : n < 10) (hc : isTy c) (e : t.drop j = vw n c ++ r) : absR (vw n c) (t.drop j) j (eAt t j) 0 = (20 + (cnt (eAt t j) j : Int)) :: absR (vw n c) (t.drop (j + (2 + c.length))) (j + (2 + c.length)) (eAt t (j + (2 + c.length))) 0 := by
  have h1 : (vw n c).isPrefixOf (vw n c ++ r) = true := by rw [List.isPrefixOf_iff_prefix]; exact ⟨r, rfl⟩
  have hlow : ∀ s ∈ n :: c, s < 10 := abs_low hn hc
  have h2 := absR_skip (n := n) (c := c) hlow r (eAt t j) (j + 1)
  have hd : t.drop (j + (2 + c.length)) = r := by
    rw [← List.drop_drop, e]
    simp [vw]
    rw [show 2 + c.length = c.length + 1 + 1 by omega]
    simp
  have hE : eAt t (j + (2 + c.length)) = eAt t j := by
    refine eAt_low _ (fun i h3 h4 h5 => ?_)
    have h6 : (t.drop j)[i - j]? = some 13 := by rw [List.getElem?_drop, show j + (i - j) = i by omega]; exact h5
    rw [e, List.getElem?_append_left (by simp [vw]; omega)] at h6
    have h7 := List.mem_of_getElem? h6
    unfold vw at h7
    rcases List.mem_cons.mp h7 with h8 | h8
    · exact absurd h8 (by decide)
    · have := hlow 13 h8; omega
  rw [hd, hE, e]
  unfold vw at h1 h2 ⊢
  simp only [List.cons_append] at h1 h2 ⊢
  rw [absR, if_pos rfl, if_pos h1, if_neg (by decide)]
  simp only [List.length_cons, Nat.add_sub_cancel] at h2 ⊢
  rw [h2]
  congr 2
  omega
theorem absR_miss {n : Int} {c t : List Int} {j : Nat} {s : Int} (hsj : t[j]? = some s) (hdj : t.drop j = s :: t.drop (j + 1)) (h : ¬ (vw n c).isPrefixOf (t.drop j) = true) : absR (vw n c) (t.drop j) j (eAt t j) 0 = s :: absR (vw n c) (t.drop (j + 1)) (j + 1) (eAt t (j + 1)) 0 := by
  have hE : eAt t (j + 1) = (if s = 13 then (j + szT (s :: t.drop (j + 1))) :: eAt t j else eAt t j) := by
    rw [eAt, hsj, hdj]
    by_cases hs : s = 13
    · simp [hs]
    · simp [hs]
  rw [hE]
  rw [hdj] at h ⊢
  rw [absR, if_pos rfl, if_neg h]
set_option maxHeartbeats 4000000 in
set_option maxRecDepth 100000 in
theorem re_emitAbs_l {vf vt f g : Int} {pt pv : Nat} {t a c : List Int} {n : Int} (E : rE) (ht : isTm [] t a) (hc : isTy c) (hn : 0 ≤ n ∧ n ≤ 7) (hf : f = pt) (hg : g = (pt : Int) + (t.length : Int)) (hvf : vf = pv) (hvt : vt = (pv : Int) + 2 + (c.length : Int)) (h1 : pt + t.length ≤ 10000) (h2 : pv + 2 + c.length ≤ 10000) : ∀ (N j : Nat) (q : rS) (kk : Int), t.length - j < N → j ≤ t.length → kk = (pt : Int) + (j : Int) → sg q pt t → sg q pv (vw n c) → (pt : Int) + (t.length : Int) ≤ q 6 5 → (pv : Int) + 2 + (c.length : Int) ≤ q 6 5 → q 6 5 + ((t.length : Int) - (j : Int)) ≤ 10000 → rX E mm_Re_emitAbs 17 [some (.inr (some E.1.length)), some (.inl vf), some (.inl vt), some (.inl f), some (.inl g), some (.inl kk)] [] q (fun r q' => r = none ∧ q' = emL q (absR (vw n c) (t.drop j) j (eAt t j) 0)) := by
  intro N
  induction N with
  | zero => intro j q kk hN; omega
  | succ N ih =>
    intro j q kk hN hj hkk hs hv h3 h4 h5
    by_cases hjt : j = t.length
    · subst hjt
      refine rx (xs_iload dm_Re_emitAbs_17 rfl) ?_
      refine rx (xs_iload dm_Re_emitAbs_19 rfl) ?_
      refine rx (xs_icmp_ge_t (tgt := 77) dm_Re_emitAbs_21 rfl (by unfold ir; omega) (by unfold ir; omega) (by omega)) ?_
      exact rrv dm_Re_emitAbs_77 rfl ⟨rfl, by rw [List.drop_eq_nil_of_le (Nat.le_refl _)]; rfl⟩
    · obtain ⟨s, hsj, hdj⟩ := drop_hd (t := t) (j := j) (by omega)
      have hq := sg_at hs hsj
      refine rx (xs_iload dm_Re_emitAbs_17 rfl) ?_
      refine rx (xs_iload dm_Re_emitAbs_19 rfl) ?_
      refine rx (xs_icmp_ge_f (tgt := 77) dm_Re_emitAbs_21 rfl (by unfold ir; omega) (by unfold ir; omega) (by omega)) ?_
      refine rx (xs_aload_n dm_Re_emitAbs_24 rfl) ?_
      refine rx (xs_iload dm_Re_emitAbs_25 rfl) ?_
      refine rx (xs_iload_n dm_Re_emitAbs_27 rfl) ?_
      refine rx (xs_iload_n dm_Re_emitAbs_28 rfl) ?_
      refine rcV (as := [.inl kk, .inl vf, .inl vt]) (rest := []) dm_Re_emitAbs_29 lc_Re_stands lm_Re_119 li_Re_stands (nr rfl rfl) rfl rfl rfl (nl rfl) (re_stands (j := j) hs ht (by omega) hv hc hn (by omega) hvf hvt h1 h2 (by simp)) ?_
      rintro _ q1 ⟨rfl, hq1⟩
      have hq1 := hq1.symm
      subst hq1
      show rX E _ 32 [some (.inr (some E.1.length)), some (.inl vf), some (.inl vt), some (.inl f), some (.inl g), some (.inl kk)] [.inl (if (vw n c).isPrefixOf (t.drop j) = true then 1 else 0)] _ _
      by_cases hP : (vw n c).isPrefixOf (t.drop j) = true
      · rw [if_pos hP]
        refine rx (xs_if_eq_f (tgt := 60) dm_Re_emitAbs_32 rfl (by unfold ir; omega) (by decide)) ?_
        refine rx (xs_aload_n dm_Re_emitAbs_35 rfl) ?_
        refine rx (xs_bipush dm_Re_emitAbs_36 (by decide)) ?_
        refine rx (xs_aload_n dm_Re_emitAbs_38 rfl) ?_
        refine rx (xs_iload_n dm_Re_emitAbs_39 rfl) ?_
        refine rx (xs_iload dm_Re_emitAbs_40 rfl) ?_
        refine rcV (as := [.inl f, .inl kk]) (rest := [.inl 20, .inr (some E.1.length)]) dm_Re_emitAbs_42 lc_Re_depth lm_Re_123 li_Re_depth (nr rfl rfl) rfl rfl rfl (nl rfl) (re_depth hs ht hj hf (by omega) h1 (by simp)) ?_
        rintro _ q1 ⟨rfl, hq1⟩
        have hq1 := hq1.symm
        subst hq1
        show rX E _ 45 [some (.inr (some E.1.length)), some (.inl vf), some (.inl vt), some (.inl f), some (.inl g), some (.inl kk)] [.inl (cnt (eAt t j) j : Int), .inl 20, .inr (some E.1.length)] _ _
        refine rx (xs_iadd dm_Re_emitAbs_45) ?_
        obtain ⟨r, er⟩ := List.isPrefixOf_iff_prefix.mp hP
        have hl := congrArg List.length er
        simp only [List.length_drop, List.length_append, vw, List.length_cons] at hl
        have o1 := em_out q (20 + (cnt (eAt t j) j : Int))
        refine rcV (as := [.inl (20 + (cnt (eAt t j) j : Int))]) (rest := []) dm_Re_emitAbs_46 lc_Re_emit lm_Re_32 li_Re_emit (nr rfl rfl) rfl rfl rfl (nl rfl) (re_emit (x := 20 + (cnt (eAt t j) j : Int)) (by omega) (by omega)) ?_
        rintro _ _ ⟨rfl, rfl⟩
        show rX E _ 49 [some (.inr (some E.1.length)), some (.inl vf), some (.inl vt), some (.inl f), some (.inl g), some (.inl kk)] [] _ _
        refine rx (xs_iload dm_Re_emitAbs_49 rfl) ?_
        refine rx (xs_iload_n dm_Re_emitAbs_51 rfl) ?_
        refine rx (xs_iload_n dm_Re_emitAbs_52 rfl) ?_
        refine rx (xs_isub dm_Re_emitAbs_53) ?_
        refine rx (xs_iadd dm_Re_emitAbs_54) ?_
        refine rx (xs_istore dm_Re_emitAbs_55 (by decide)) ?_
        show rX E _ 57 [some (.inr (some E.1.length)), some (.inl vf), some (.inl vt), some (.inl f), some (.inl g), some (.inl (kk + (vt - vf)))] [] _ _
        refine rx (xs_goto (tgt := 17) dm_Re_emitAbs_57 rfl) ?_
        rw [absR_hit (by omega) hc er.symm]
        refine rxq (ih (j + (2 + c.length)) _ _ (by omega) (by omega) (by omega) (emL_sgo (l := [20 + (cnt (eAt t j) j : Int)]) (by omega) hs (by omega)) (emL_sgo (l := [20 + (cnt (eAt t j) j : Int)]) (by omega) hv (by simp [vw]; omega)) (by omega) (by omega) (by omega)) ?_
        rintro _ _ ⟨rfl, rfl⟩
        exact ⟨rfl, rfl⟩
      · rw [if_neg hP]
        refine rx (xs_if_eq_t (tgt := 60) dm_Re_emitAbs_32 rfl (by unfold ir; omega) rfl) ?_
        refine rx (xs_aload_n dm_Re_emitAbs_60 rfl) ?_
        refine rx (xs_aload_n dm_Re_emitAbs_61 rfl) ?_
        refine rx (rg (v := .inr (some (rA E 0))) dm_Re_emitAbs_62 lf_Re_7 rfl) ?_
        refine rx (xs_iload dm_Re_emitAbs_65 rfl) ?_
        refine rx (rlv 0 s (by decide) dm_Re_emitAbs_67 (by omega) (by show _ < ((10000 : Nat) : Int); omega) (by rw [← hq]; congr 1; omega)) ?_
        have o1 := em_out q s
        refine rcV (as := [.inl s]) (rest := []) dm_Re_emitAbs_68 lc_Re_emit lm_Re_32 li_Re_emit (nr rfl rfl) rfl rfl rfl (nl rfl) (re_emit (x := s) (by omega) (by omega)) ?_
        rintro _ _ ⟨rfl, rfl⟩
        show rX E _ 71 [some (.inr (some E.1.length)), some (.inl vf), some (.inl vt), some (.inl f), some (.inl g), some (.inl kk)] [] _ _
        refine rx (xs_iinc dm_Re_emitAbs_71 rfl (by decide)) ?_
        show rX E _ 74 [some (.inr (some E.1.length)), some (.inl vf), some (.inl vt), some (.inl f), some (.inl g), some (.inl (kk + 1))] [] _ _
        refine rx (xs_goto (tgt := 17) dm_Re_emitAbs_74 rfl) ?_
        rw [absR_miss hsj hdj hP]
        refine rxq (ih (j + 1) _ _ (by omega) (by omega) (by omega) (emL_sgo (l := [s]) (by omega) hs (by omega)) (emL_sgo (l := [s]) (by omega) hv (by simp [vw]; omega)) (by omega) (by omega) (by omega)) ?_
        rintro _ _ ⟨rfl, rfl⟩
        exact ⟨rfl, rfl⟩
set_option maxHeartbeats 4000000 in
set_option maxRecDepth 100000 in
theorem re_emitAbs {q : rS} {vf vt f g : Int} {pt pv : Nat} {t a c : List Int} {n : Int} (hs : sg q pt t) (hv : sg q pv (vw n c)) (ht : isTm [] t a) (hc : isTy c) (hn : 0 ≤ n ∧ n ≤ 7) (hf : f = pt) (hg : g = (pt : Int) + (t.length : Int)) (hvf : vf = pv) (hvt : vt = (pv : Int) + 2 + (c.length : Int)) (h1 : (pt : Int) + (t.length : Int) ≤ q 6 5) (h2 : (pv : Int) + 2 + (c.length : Int) ≤ q 6 5) (h3 : q 6 5 + 1 + (c.length : Int) + (t.length : Int) ≤ 10000) : rM mm_Re_emitAbs [.inl vf, .inl vt, .inl f, .inl g] q (fun r q' => r = none ∧ q' = emL q (13 :: (c ++ absC (vw n c) t ([], 1) 0))) := by
  refine rm rfl (nl rfl) (fun E => ?_)
  show rX E _ 0 [some (.inr (some E.1.length)), some (.inl vf), some (.inl vt), some (.inl f), some (.inl g), none] [] _ _
  refine rx (xs_aload_n dm_Re_emitAbs_0 rfl) ?_
  refine rx (xs_bipush dm_Re_emitAbs_1 (by decide)) ?_
  refine rcV (as := [.inl 13]) (rest := []) dm_Re_emitAbs_3 lc_Re_emit lm_Re_32 li_Re_emit (nr rfl rfl) rfl rfl rfl (nl rfl) (re_emit (x := 13) (by omega) (by omega)) ?_
  rintro _ _ ⟨rfl, rfl⟩
  show rX E _ 6 [some (.inr (some E.1.length)), some (.inl vf), some (.inl vt), some (.inl f), some (.inl g), none] [] _ _
  refine rx (xs_aload_n dm_Re_emitAbs_6 rfl) ?_
  refine rx (xs_iload_n dm_Re_emitAbs_7 rfl) ?_
  refine rx (xs_iconst dm_Re_emitAbs_8) ?_
  refine rx (xs_iadd dm_Re_emitAbs_9) ?_
  refine rx (xs_iload_n dm_Re_emitAbs_10 rfl) ?_
  have o1 := em_out q 13
  have hv1 : sg (em q 13) pv (vw n c) := emL_sgo (l := [13]) (by omega) hv (by simp [vw]; omega)
  have hs1 : sg (em q 13) pt t := emL_sgo (l := [13]) (by omega) hs (by omega)
  refine rcV (as := [.inl (vf + 2), .inl vt]) (rest := []) dm_Re_emitAbs_11 lc_Re_emitRow lm_Re_43 li_Re_emitRow (nr rfl rfl) rfl rfl rfl (nl rfl) (re_emitRow (p := pv + 1 + 1) (l := c) (sg_tl (sg_tl hv1)) (by omega) (by omega) (by omega) (by omega)) ?_
  rintro _ _ ⟨rfl, rfl⟩
  show rX E _ 14 [some (.inr (some E.1.length)), some (.inl vf), some (.inl vt), some (.inl f), some (.inl g), none] [] _ _
  refine rx (xs_iload_n dm_Re_emitAbs_14 rfl) ?_
  refine rx (xs_istore dm_Re_emitAbs_15 (by decide)) ?_
  show rX E _ 17 [some (.inr (some E.1.length)), some (.inl vf), some (.inl vt), some (.inl f), some (.inl g), some (.inl f)] [] _ _
  have o2 := emL_out (em q 13) c
  have e := (abs_ok (n := n) (by omega) hc ht).2
  refine rxq (re_emitAbs_l E ht hc hn hf hg hvf hvt (by omega) (by omega) (t.length + 1) 0 (emL (em q 13) c) _ (by omega) (by omega) (by omega) (emL_sgo (by omega) hs1 (by omega)) (emL_sgo (by omega) hv1 (by simp [vw]; omega)) (by omega) (by omega) (by omega)) ?_
  rintro _ _ ⟨rfl, rfl⟩
  refine ⟨rfl, ?_⟩
  rw [emL_cons, emL_app, List.drop_zero]
  show emL (emL (em q 13) c) (absR (10 :: n :: c) t 0 [] 0) = _
  rw [e]
  rfl
