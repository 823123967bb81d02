theorem rplC_hit {n : Int} {c u t r : List Int} {j : Nat} (hn : n < 10) (hc : isTy c) (e : t.drop j = vw n c ++ r) : rplC (vw n c) u (t.drop j) 0 = u ++ rplC (vw n c) u (t.drop (j + (2 + c.length))) 0 := by
  have hd : t.drop (j + (2 + c.length)) = r := by
    rw [← List.drop_drop, e]
    simp [vw]
    rw [show 2 + c.length = c.length + 1 + 1 by omega]
    simp
  rw [hd, e]
  exact rpl_hit hn hc r
theorem rplC_miss {n : Int} {c u t : List Int} {j : Nat} {s : Int} (hdj : t.drop j = s :: t.drop (j + 1)) (h : ¬ (vw n c).isPrefixOf (t.drop j) = true) : rplC (vw n c) u (t.drop j) 0 = s :: rplC (vw n c) u (t.drop (j + 1)) 0 := by
  rw [hdj] at h ⊢
  rw [rplC, if_neg h, if_pos rfl]
set_option maxHeartbeats 4000000 in
set_option maxRecDepth 100000 in
theorem re_replaced_l {vf vt f g uf ut : Int} {pt pv pu : Nat} {t a c u : List Int} {n : Int} (E : rE) (ht : isTm [] t a) (hc : isTy c) (hn : 0 ≤ n ∧ n ≤ 7) (hf : f = pt) (hg : g = (pt : Int) + (t.length : Int)) (hvf : vf = pv) (hvt : vt = (pv : Int) + 2 + (c.length : Int)) (huf : uf = pu) (hut : ut = (pu : Int) + (u.length : Int)) (h1 : pt + t.length ≤ 10000) (h2 : pv + 2 + c.length ≤ 10000) (hul : u.length ≤ 40) : ∀ (N j : Nat) (q : rS) (kk : Int), t.length - j < N → j ≤ t.length → kk = (pt : Int) + (j : Int) → sg q pt t → sg q pv (vw n c) → sg q pu u → (pt : Int) + (t.length : Int) ≤ q 6 5 → (pv : Int) + 2 + (c.length : Int) ≤ q 6 5 → (pu : Int) + (u.length : Int) ≤ q 6 5 → q 6 5 + 40 * ((t.length : Int) - (j : Int)) ≤ 10000 → rX E mm_Re_replaced 3 [some (.inr (some E.1.length)), some (.inl f), some (.inl g), some (.inl vf), some (.inl vt), some (.inl uf), some (.inl ut), some (.inl kk)] [] q (fun r q' => r = none ∧ q' = emL q (rplC (vw n c) u (t.drop j) 0)) := by
  intro N
  induction N with
  | zero => intro j q kk hN; omega
  | succ N ih =>
    intro j q kk hN hj hkk hs hv hu h3 h4 h6 h5
    by_cases hjt : j = t.length
    · subst hjt
      refine rx (xs_iload dm_Re_replaced_3 rfl) ?_
      refine rx (xs_iload_n dm_Re_replaced_5 rfl) ?_
      refine rx (xs_icmp_ge_t (tgt := 58) dm_Re_replaced_6 rfl (by unfold ir; omega) (by unfold ir; omega) (by omega)) ?_
      exact rrv dm_Re_replaced_58 rfl ⟨rfl, by rw [List.drop_eq_nil_of_le (Nat.le_refl _)]; rfl⟩
    · obtain ⟨s, hsj, hdj⟩ := drop_hd (t := t) (j := j) (by omega)
      have hq := sg_at hs hsj
      refine rx (xs_iload dm_Re_replaced_3 rfl) ?_
      refine rx (xs_iload_n dm_Re_replaced_5 rfl) ?_
      refine rx (xs_icmp_ge_f (tgt := 58) dm_Re_replaced_6 rfl (by unfold ir; omega) (by unfold ir; omega) (by omega)) ?_
      refine rx (xs_aload_n dm_Re_replaced_9 rfl) ?_
      refine rx (xs_iload dm_Re_replaced_10 rfl) ?_
      refine rx (xs_iload_n dm_Re_replaced_12 rfl) ?_
      refine rx (xs_iload dm_Re_replaced_13 rfl) ?_
      refine rcV (as := [.inl kk, .inl vf, .inl vt]) (rest := []) dm_Re_replaced_15 lc_Re_stands lm_Re_119 li_Re_stands (nr rfl rfl) rfl rfl rfl (nl rfl) (re_stands (j := j) hs ht (by omega) hv hc hn (by omega) hvf hvt h1 h2 (by simp)) ?_
      rintro _ q1 ⟨rfl, hq1⟩
      have hq1 := hq1.symm
      subst hq1
      show rX E _ 18 [some (.inr (some E.1.length)), some (.inl f), some (.inl g), some (.inl vf), some (.inl vt), some (.inl uf), some (.inl ut), some (.inl kk)] [.inl (if (vw n c).isPrefixOf (t.drop j) = true then 1 else 0)] _ _
      by_cases hP : (vw n c).isPrefixOf (t.drop j) = true
      · rw [if_pos hP]
        refine rx (xs_if_eq_f (tgt := 41) dm_Re_replaced_18 rfl (by unfold ir; omega) (by decide)) ?_
        refine rx (xs_aload_n dm_Re_replaced_21 rfl) ?_
        refine rx (xs_iload dm_Re_replaced_22 rfl) ?_
        refine rx (xs_iload dm_Re_replaced_24 rfl) ?_
        obtain ⟨r, er⟩ := List.isPrefixOf_iff_prefix.mp hP
        have hl := congrArg List.length er
        simp only [List.length_drop, List.length_append, vw, List.length_cons] at hl
        have o1 := emL_out q u
        refine rcV (as := [.inl uf, .inl ut]) (rest := []) dm_Re_replaced_26 lc_Re_emitRow lm_Re_43 li_Re_emitRow (nr rfl rfl) rfl rfl rfl (nl rfl) (re_emitRow hu huf hut (by omega) (by omega)) ?_
        rintro _ _ ⟨rfl, rfl⟩
        show rX E _ 29 [some (.inr (some E.1.length)), some (.inl f), some (.inl g), some (.inl vf), some (.inl vt), some (.inl uf), some (.inl ut), some (.inl kk)] [] _ _
        refine rx (xs_iload dm_Re_replaced_29 rfl) ?_
        refine rx (xs_iload dm_Re_replaced_31 rfl) ?_
        refine rx (xs_iload_n dm_Re_replaced_33 rfl) ?_
        refine rx (xs_isub dm_Re_replaced_34) ?_
        refine rx (xs_iadd dm_Re_replaced_35) ?_
        refine rx (xs_istore dm_Re_replaced_36 (by decide)) ?_
        show rX E _ 38 [some (.inr (some E.1.length)), some (.inl f), some (.inl g), some (.inl vf), some (.inl vt), some (.inl uf), some (.inl ut), some (.inl (kk + (vt - vf)))] [] _ _
        refine rx (xs_goto (tgt := 3) dm_Re_replaced_38 rfl) ?_
        rw [rplC_hit (by omega) hc er.symm, emL_app]
        exact ih (j + (2 + c.length)) _ _ (by omega) (by omega) (by omega) (emL_sgo (by omega) hs (by omega)) (emL_sgo (by omega) hv (by simp [vw]; omega)) (emL_sgo (by omega) hu (by omega)) (by omega) (by omega) (by omega) (by omega)
      · rw [if_neg hP]
        refine rx (xs_if_eq_t (tgt := 41) dm_Re_replaced_18 rfl (by unfold ir; omega) rfl) ?_
        refine rx (xs_aload_n dm_Re_replaced_41 rfl) ?_
        refine rx (xs_aload_n dm_Re_replaced_42 rfl) ?_
        refine rx (rg (v := .inr (some (rA E 0))) dm_Re_replaced_43 lf_Re_7 rfl) ?_
        refine rx (xs_iload dm_Re_replaced_46 rfl) ?_
        refine rx (rlv 0 s (by decide) dm_Re_replaced_48 (by omega) (by show _ < ((10000 : Nat) : Int); omega) (by rw [← hq]; congr 1; omega)) ?_
        have o1 := em_out q s
        refine rcV (as := [.inl s]) (rest := []) dm_Re_replaced_49 lc_Re_emit lm_Re_32 li_Re_emit (nr rfl rfl) rfl rfl rfl (nl rfl) (re_emit (x := s) (by omega) (by omega)) ?_
        rintro _ _ ⟨rfl, rfl⟩
        show rX E _ 52 [some (.inr (some E.1.length)), some (.inl f), some (.inl g), some (.inl vf), some (.inl vt), some (.inl uf), some (.inl ut), some (.inl kk)] [] _ _
        refine rx (xs_iinc dm_Re_replaced_52 rfl (by decide)) ?_
        show rX E _ 55 [some (.inr (some E.1.length)), some (.inl f), some (.inl g), some (.inl vf), some (.inl vt), some (.inl uf), some (.inl ut), some (.inl (kk + 1))] [] _ _
        refine rx (xs_goto (tgt := 3) dm_Re_replaced_55 rfl) ?_
        rw [rplC_miss hdj hP, emL_cons]
        exact ih (j + 1) _ _ (by omega) (by omega) (by omega) (emL_sgo (l := [s]) (by omega) hs (by omega)) (emL_sgo (l := [s]) (by omega) hv (by simp [vw]; omega)) (emL_sgo (l := [s]) (by omega) hu (by omega)) (by omega) (by omega) (by omega) (by omega)
set_option maxHeartbeats 4000000 in
set_option maxRecDepth 100000 in
theorem re_replaced {q : rS} {vf vt f g uf ut : Int} {pt pv pu : Nat} {t a c u : List Int} {n : Int} (hs : sg q pt t) (hv : sg q pv (vw n c)) (hu : sg q pu u) (ht : isTm [] t a) (hc : isTy c) (hn : 0 ≤ n ∧ n ≤ 7) (hf : f = pt) (hg : g = (pt : Int) + (t.length : Int)) (hvf : vf = pv) (hvt : vt = (pv : Int) + 2 + (c.length : Int)) (huf : uf = pu) (hut : ut = (pu : Int) + (u.length : Int)) (hul : u.length ≤ 40) (h3 : (pt : Int) + (t.length : Int) ≤ q 6 5) (h4 : (pv : Int) + 2 + (c.length : Int) ≤ q 6 5) (h6 : (pu : Int) + (u.length : Int) ≤ q 6 5) (h5 : q 6 5 + 40 * (t.length : Int) ≤ 10000) : rM mm_Re_replaced [.inl f, .inl g, .inl vf, .inl vt, .inl uf, .inl ut] q (fun r q' => r = none ∧ q' = emL q (rplC (vw n c) u t 0)) := by
  refine rm rfl (nl rfl) (fun E => ?_)
  show rX E _ 0 [some (.inr (some E.1.length)), some (.inl f), some (.inl g), some (.inl vf), some (.inl vt), some (.inl uf), some (.inl ut), none] [] _ _
  refine rx (xs_iload_n dm_Re_replaced_0 rfl) ?_
  refine rx (xs_istore dm_Re_replaced_1 (by decide)) ?_
  show rX E _ 3 [some (.inr (some E.1.length)), some (.inl f), some (.inl g), some (.inl vf), some (.inl vt), some (.inl uf), some (.inl ut), some (.inl f)] [] _ _
  exact re_replaced_l E ht hc hn hf hg hvf hvt huf hut (by omega) (by omega) hul (t.length + 1) 0 q _ (by omega) (by omega) (by omega) hs hv hu h3 h4 h6 (by omega)
/-- does the variable stand in the row -/
def frC (v : List Int) : List Int → Prop
  | [] => False
  | s :: l => v.isPrefixOf (s :: l) = true ∨ frC v l
theorem frC_dec (v : List Int) : ∀ l, frC v l ∨ ¬ frC v l := fun l => Classical.em _
set_option maxHeartbeats 4000000 in
set_option maxRecDepth 100000 in
theorem re_free_l {q : rS} {vf vt f g : Int} {pt pv : Nat} {t a c : List Int} {n : Int} {R : Int} (E : rE) (hs : sg q pt t) (hv : sg q pv (vw n c)) (ht : isTm [] t a) (hc : isTy c) (hn : 0 ≤ n ∧ n ≤ 7) (hf : f = pt) (hg : g = (pt : Int) + (t.length : Int)) (hvf : vf = pv) (hvt : vt = (pv : Int) + 2 + (c.length : Int)) (h1 : pt + t.length ≤ 10000) (h2 : pv + 2 + c.length ≤ 10000) : ∀ (N j : Nat) (kk : Int), t.length - j < N → j ≤ t.length → kk = (pt : Int) + (j : Int) → (frC (vw n c) (t.drop j) → R = 1) → (¬ frC (vw n c) (t.drop j) → R = 0) → rX E mm_Re_free 3 [some (.inr (some E.1.length)), some (.inl vf), some (.inl vt), some (.inl f), some (.inl g), some (.inl kk)] [] q (fun r q' => r = some (.inl R) ∧ q' = q) := by
  intro N
  induction N with
  | zero => intro j kk hN; omega
  | succ N ih =>
    intro j kk hN hj hkk hR1 hR0
    by_cases hjt : j = t.length
    · subst hjt
      refine rx (xs_iload dm_Re_free_3 rfl) ?_
      refine rx (xs_iload dm_Re_free_5 rfl) ?_
      refine rx (xs_icmp_ge_t (tgt := 29) dm_Re_free_7 rfl (by unfold ir; omega) (by unfold ir; omega) (by omega)) ?_
      refine rx (xs_iconst dm_Re_free_29) ?_
      exact rrz dm_Re_free_30 rfl (Or.inl rfl) ⟨vi (hR0 (by rw [List.drop_eq_nil_of_le (Nat.le_refl _)]; exact id)).symm, rfl⟩
    · obtain ⟨s, hsj, hdj⟩ := drop_hd (t := t) (j := j) (by omega)
      refine rx (xs_iload dm_Re_free_3 rfl) ?_
      refine rx (xs_iload dm_Re_free_5 rfl) ?_
      refine rx (xs_icmp_ge_f (tgt := 29) dm_Re_free_7 rfl (by unfold ir; omega) (by unfold ir; omega) (by omega)) ?_
      refine rx (xs_aload_n dm_Re_free_10 rfl) ?_
      refine rx (xs_iload dm_Re_free_11 rfl) ?_
      refine rx (xs_iload_n dm_Re_free_13 rfl) ?_
      refine rx (xs_iload_n dm_Re_free_14 rfl) ?_
      refine rcV (as := [.inl kk, .inl vf, .inl vt]) (rest := []) dm_Re_free_15 lc_Re_stands lm_Re_119 li_Re_stands (nr rfl rfl) rfl rfl rfl (nl rfl) (re_stands (j := j) hs ht (by omega) hv hc hn (by omega) hvf hvt h1 h2 (by simp)) ?_
      rintro _ q1 ⟨rfl, hq1⟩
      have hq1 := hq1.symm
      subst hq1
      show rX E _ 18 [some (.inr (some E.1.length)), some (.inl vf), some (.inl vt), some (.inl f), some (.inl g), some (.inl kk)] [.inl (if (vw n c).isPrefixOf (t.drop j) = true then 1 else 0)] _ _
      by_cases hP : (vw n c).isPrefixOf (t.drop j) = true
      · rw [if_pos hP]
        refine rx (xs_if_eq_f (tgt := 23) dm_Re_free_18 rfl (by unfold ir; omega) (by decide)) ?_
        refine rx (xs_iconst dm_Re_free_21) ?_
        exact rrz dm_Re_free_22 rfl (Or.inr rfl) ⟨vi (hR1 (by rw [hdj] at hP ⊢; exact Or.inl hP)).symm, rfl⟩
      · rw [if_neg hP]
        refine rx (xs_if_eq_t (tgt := 23) dm_Re_free_18 rfl (by unfold ir; omega) rfl) ?_
        refine rx (xs_iinc dm_Re_free_23 rfl (by decide)) ?_
        show rX E _ 26 [some (.inr (some E.1.length)), some (.inl vf), some (.inl vt), some (.inl f), some (.inl g), some (.inl (kk + 1))] [] _ _
        refine rx (xs_goto (tgt := 3) dm_Re_free_26 rfl) ?_
        rw [hdj] at hR1 hR0 hP
        exact ih (j + 1) _ (by omega) (by omega) (by omega) (fun h => hR1 (Or.inr h)) (fun h => hR0 (fun h9 => h9.elim hP h))
set_option maxHeartbeats 4000000 in
set_option maxRecDepth 100000 in
theorem re_free {q : rS} {vf vt f g : Int} {pt pv : Nat} {t a c : List Int} {n : Int} {R : Int} (hs : sg q pt t) (hv : sg q pv (vw n c)) (ht : isTm [] t a) (hc : isTy c) (hn : 0 ≤ n ∧ n ≤ 7) (hf : f = pt) (hg : g = (pt : Int) + (t.length : Int)) (hvf : vf = pv) (hvt : vt = (pv : Int) + 2 + (c.length : Int)) (h1 : pt + t.length ≤ 10000) (h2 : pv + 2 + c.length ≤ 10000) (hR1 : frC (vw n c) t → R = 1) (hR0 : ¬ frC (vw n c) t → R = 0) : rM mm_Re_free [.inl vf, .inl vt, .inl f, .inl g] q (fun r q' => r = some (.inl R) ∧ q' = q) := by
  refine rm rfl (nl rfl) (fun E => ?_)
  show rX E _ 0 [some (.inr (some E.1.length)), some (.inl vf), some (.inl vt), some (.inl f), some (.inl g), none] [] _ _
  refine rx (xs_iload_n dm_Re_free_0 rfl) ?_
  refine rx (xs_istore dm_Re_free_1 (by decide)) ?_
  show rX E _ 3 [some (.inr (some E.1.length)), some (.inl vf), some (.inl vt), some (.inl f), some (.inl g), some (.inl f)] [] _ _
  exact re_free_l E hs hv ht hc hn hf hg hvf hvt h1 h2 (t.length + 1) 0 _ (by omega) (by omega) (by omega) (by simpa using hR1) (by simpa using hR0)
theorem betR_step {u t : List Int} {j : Nat} {s : Int} (hsj : t[j]? = some s) (hdj : t.drop j = s :: t.drop (j + 1)) : betR u (t.drop j) j (eAt t j) = if 20 ≤ s ∧ s - 20 = (cnt (eAt t j) j : Int) then u ++ betR u (t.drop (j + 1)) (j + 1) (eAt t (j + 1)) else s :: betR u (t.drop (j + 1)) (j + 1) (eAt t (j + 1)) := by
  have hE : eAt t (j + 1) = (if s = 13 then (j + szT (s :: t.drop (j + 1))) :: eAt t j else eAt t j) := by
    rw [eAt, hsj, hdj]
    by_cases hs : s = 13
    · simp [hs]
    · simp [hs]
  rw [hE]
  rw [hdj, betR]
set_option maxHeartbeats 4000000 in
set_option maxRecDepth 100000 in
theorem re_reduce_l {f g ue : Int} {pt : Nat} {t b c x : List Int} (E : rE) (ht : isTm [c] t b) (hf : f = pt) (hue : ue = (pt : Int) + (t.length : Int)) (hg : g = (pt : Int) + (t.length : Int) + (x.length : Int)) (h1 : pt + t.length ≤ 10000) (hul : x.length ≤ 40) : ∀ (N j : Nat) (q : rS) (kk : Int), t.length - j < N → j ≤ t.length → kk = (pt : Int) + (j : Int) → sg q pt t → sg q (pt + t.length) x → g ≤ q 6 5 → q 6 5 + 40 * ((t.length : Int) - (j : Int)) ≤ 10000 → rX E mm_Re_reduce 9 [some (.inr (some E.1.length)), some (.inl f), some (.inl g), some (.inl ue), some (.inl kk)] [] q (fun r q' => r = none ∧ q' = emL q (betR x (t.drop j) j (eAt t j))) := by
  intro N
  induction N with
  | zero => intro j q kk hN; omega
  | succ N ih =>
    intro j q kk hN hj hkk hs hx h3 h5
    by_cases hjt : j = t.length
    · subst hjt
      refine rx (xs_iload dm_Re_reduce_9 rfl) ?_
      refine rx (xs_iload_n dm_Re_reduce_11 rfl) ?_
      refine rx (xs_icmp_ge_t (tgt := 73) dm_Re_reduce_12 rfl (by unfold ir; omega) (by unfold ir; omega) (by omega)) ?_
      exact rrv dm_Re_reduce_73 rfl ⟨rfl, by rw [List.drop_eq_nil_of_le (Nat.le_refl _)]; rfl⟩
    · obtain ⟨s, hsj, hdj⟩ := drop_hd (t := t) (j := j) (by omega)
      have hq := sg_at hs hsj
      have his : ir s := isTm_ir ht (by simp; omega) s (List.mem_of_getElem? hsj)
      have hss := isTm_sym ht s (List.mem_of_getElem? hsj)
      simp only [List.length_cons, List.length_nil] at hss
      have hcl := cnt_le (eAt t j) j
      have hel := eAt_len t j
      rw [betR_step hsj hdj]
      have o1 := em_out q s
      have o2 := emL_out q x
      refine rx (xs_iload dm_Re_reduce_9 rfl) ?_
      refine rx (xs_iload_n dm_Re_reduce_11 rfl) ?_
      refine rx (xs_icmp_ge_f (tgt := 73) dm_Re_reduce_12 rfl (by unfold ir; omega) (by unfold ir; omega) (by omega)) ?_
      refine rx (xs_aload_n dm_Re_reduce_15 rfl) ?_
      refine rx (rg (v := .inr (some (rA E 0))) dm_Re_reduce_16 lf_Re_7 rfl) ?_
      refine rx (xs_iload dm_Re_reduce_19 rfl) ?_
      refine rx (rlv 0 s (by decide) dm_Re_reduce_21 (by omega) (by show _ < ((10000 : Nat) : Int); omega) (by rw [← hq]; congr 1; omega)) ?_
      refine rx (xs_bipush dm_Re_reduce_22 (by decide)) ?_
      refine xx_icmp_lt (tgt := 56) dm_Re_reduce_24 rfl his (by unfold ir; omega) (fun hc => ?_) (fun hc => ?_)
      · change rX E _ 56 _ _ _ _
        rw [if_neg (fun h => by omega)]
        refine rx (xs_aload_n dm_Re_reduce_56 rfl) ?_
        refine rx (xs_aload_n dm_Re_reduce_57 rfl) ?_
        refine rx (rg (v := .inr (some (rA E 0))) dm_Re_reduce_58 lf_Re_7 rfl) ?_
        refine rx (xs_iload dm_Re_reduce_61 rfl) ?_
        refine rx (rlv 0 s (by decide) dm_Re_reduce_63 (by omega) (by show _ < ((10000 : Nat) : Int); omega) (by rw [← hq]; congr 1; omega)) ?_
        refine rcV (as := [.inl s]) (rest := []) dm_Re_reduce_64 lc_Re_emit lm_Re_32 li_Re_emit (nr rfl rfl) rfl rfl rfl (nl rfl) (re_emit (x := s) (by omega) (by omega)) ?_
        rintro _ _ ⟨rfl, rfl⟩
        show rX E _ 67 [some (.inr (some E.1.length)), some (.inl f), some (.inl g), some (.inl ue), some (.inl kk)] [] _ _
        refine rx (xs_iinc dm_Re_reduce_67 rfl (by decide)) ?_
        show rX E _ 70 [some (.inr (some E.1.length)), some (.inl f), some (.inl g), some (.inl ue), some (.inl (kk + 1))] [] _ _
        refine rx (xs_goto (tgt := 9) dm_Re_reduce_70 rfl) ?_
        rw [emL_cons]
        exact ih (j + 1) _ _ (by omega) (by omega) (by omega) (emL_sgo (l := [s]) (by omega) hs (by omega)) (emL_sgo (l := [s]) (by omega) hx (by omega)) (by omega) (by omega)
      · change rX E _ 27 _ _ _ _
        refine rx (xs_aload_n dm_Re_reduce_27 rfl) ?_
        refine rx (rg (v := .inr (some (rA E 0))) dm_Re_reduce_28 lf_Re_7 rfl) ?_
        refine rx (xs_iload dm_Re_reduce_31 rfl) ?_
        refine rx (rlv 0 s (by decide) dm_Re_reduce_33 (by omega) (by show _ < ((10000 : Nat) : Int); omega) (by rw [← hq]; congr 1; omega)) ?_
        refine rx (xs_bipush dm_Re_reduce_34 (by decide)) ?_
        refine rx (xs_isub dm_Re_reduce_36) ?_
        refine rx (xs_aload_n dm_Re_reduce_37 rfl) ?_
        refine rx (xs_iload_n dm_Re_reduce_38 rfl) ?_
        refine rx (xs_iload dm_Re_reduce_39 rfl) ?_
        refine rcV (as := [.inl f, .inl kk]) (rest := [.inl (s - 20)]) dm_Re_reduce_41 lc_Re_depth lm_Re_123 li_Re_depth (nr rfl rfl) rfl rfl rfl (nl rfl) (re_depth hs ht hj hf (by omega) h1 (by simp)) ?_
        rintro _ q1 ⟨rfl, hq1⟩
        have hq1 := hq1.symm
        subst hq1
        show rX E _ 44 [some (.inr (some E.1.length)), some (.inl f), some (.inl g), some (.inl ue), some (.inl kk)] [.inl (cnt (eAt t j) j : Int), .inl (s - 20)] _ _
        refine xx_icmp_ne (tgt := 56) dm_Re_reduce_44 rfl (by unfold ir; omega) (by unfold ir; omega) (fun hc2 => ?_) (fun hc2 => ?_)
        · change rX E _ 56 _ _ _ _
          rw [if_neg (fun h => hc2 h.2)]
          refine rx (xs_aload_n dm_Re_reduce_56 rfl) ?_
          refine rx (xs_aload_n dm_Re_reduce_57 rfl) ?_
          refine rx (rg (v := .inr (some (rA E 0))) dm_Re_reduce_58 lf_Re_7 rfl) ?_
          refine rx (xs_iload dm_Re_reduce_61 rfl) ?_
          refine rx (rlv 0 s (by decide) dm_Re_reduce_63 (by omega) (by show _ < ((10000 : Nat) : Int); omega) (by rw [← hq]; congr 1; omega)) ?_
          refine rcV (as := [.inl s]) (rest := []) dm_Re_reduce_64 lc_Re_emit lm_Re_32 li_Re_emit (nr rfl rfl) rfl rfl rfl (nl rfl) (re_emit (x := s) (by omega) (by omega)) ?_
          rintro _ _ ⟨rfl, rfl⟩
          show rX E _ 67 [some (.inr (some E.1.length)), some (.inl f), some (.inl g), some (.inl ue), some (.inl kk)] [] _ _
          refine rx (xs_iinc dm_Re_reduce_67 rfl (by decide)) ?_
          show rX E _ 70 [some (.inr (some E.1.length)), some (.inl f), some (.inl g), some (.inl ue), some (.inl (kk + 1))] [] _ _
          refine rx (xs_goto (tgt := 9) dm_Re_reduce_70 rfl) ?_
          rw [emL_cons]
          exact ih (j + 1) _ _ (by omega) (by omega) (by omega) (emL_sgo (l := [s]) (by omega) hs (by omega)) (emL_sgo (l := [s]) (by omega) hx (by omega)) (by omega) (by omega)
        · change rX E _ 47 _ _ _ _
          rw [if_pos ⟨by omega, hc2⟩]
          refine rx (xs_aload_n dm_Re_reduce_47 rfl) ?_
          refine rx (xs_iload_n dm_Re_reduce_48 rfl) ?_
          refine rx (xs_iload_n dm_Re_reduce_49 rfl) ?_
          refine rcV (as := [.inl ue, .inl g]) (rest := []) dm_Re_reduce_50 lc_Re_emitRow lm_Re_43 li_Re_emitRow (nr rfl rfl) rfl rfl rfl (nl rfl) (re_emitRow hx (by omega) (by omega) h3 (by omega)) ?_
          rintro _ _ ⟨rfl, rfl⟩
          show rX E _ 53 [some (.inr (some E.1.length)), some (.inl f), some (.inl g), some (.inl ue), some (.inl kk)] [] _ _
          refine rx (xs_goto (tgt := 67) dm_Re_reduce_53 rfl) ?_
          refine rx (xs_iinc dm_Re_reduce_67 rfl (by decide)) ?_
          show rX E _ 70 [some (.inr (some E.1.length)), some (.inl f), some (.inl g), some (.inl ue), some (.inl (kk + 1))] [] _ _
          refine rx (xs_goto (tgt := 9) dm_Re_reduce_70 rfl) ?_
          rw [emL_app]
          exact ih (j + 1) _ _ (by omega) (by omega) (by omega) (emL_sgo (by omega) hs (by omega)) (emL_sgo (by omega) hx (by omega)) (by omega) (by omega)
set_option maxHeartbeats 4000000 in
set_option maxRecDepth 100000 in
theorem re_reduce {q : rS} {f g : Int} {pt : Nat} {t b c x : List Int} (hs : sg q pt t) (hx : sg q (pt + t.length) x) (ht : isTm [c] t b) (hxt : isTm [] x c) (hf : f = pt) (hg : g = (pt : Int) + (t.length : Int) + (x.length : Int)) (hul : x.length ≤ 40) (h3 : g ≤ q 6 5) (h5 : q 6 5 + 40 * (t.length : Int) ≤ 10000) : rM mm_Re_reduce [.inl f, .inl g] q (fun r q' => r = none ∧ q' = emL q (betC x t ([], 1))) := by
  refine rm rfl (nl rfl) (fun E => ?_)
  show rX E _ 0 [some (.inr (some E.1.length)), some (.inl f), some (.inl g), none, none] [] _ _
  refine rx (xs_aload_n dm_Re_reduce_0 rfl) ?_
  refine rx (xs_iload_n dm_Re_reduce_1 rfl) ?_
  refine rcV (as := [.inl f]) (rest := []) dm_Re_reduce_2 lc_Re_skipTerm lm_Re_40 li_Re_skipTerm (nr rfl rfl) rfl rfl rfl (nl rfl) (re_skipTerm hs ht hf (by omega) (by simp)) ?_
  rintro _ q1 ⟨rfl, hq1⟩
  have hq1 := hq1.symm
  subst hq1
  show rX E _ 5 [some (.inr (some E.1.length)), some (.inl f), some (.inl g), none, none] [.inl ((pt : Int) + (t.length : Int))] _ _
  refine rx (xs_istore_n dm_Re_reduce_5 (by decide)) ?_
  show rX E _ 6 [some (.inr (some E.1.length)), some (.inl f), some (.inl g), some (.inl ((pt : Int) + (t.length : Int))), none] [] _ _
  refine rx (xs_iload_n dm_Re_reduce_6 rfl) ?_
  refine rx (xs_istore dm_Re_reduce_7 (by decide)) ?_
  show rX E _ 9 [some (.inr (some E.1.length)), some (.inl f), some (.inl g), some (.inl ((pt : Int) + (t.length : Int))), some (.inl f)] [] _ _
  have e := (bet_ok hxt ht).2
  refine rxq (re_reduce_l E ht hf rfl hg (by omega) hul (t.length + 1) 0 q _ (by omega) (by omega) (by omega) hs hx h3 (by omega)) ?_
  rintro _ _ ⟨rfl, rfl⟩
  exact ⟨rfl, by rw [List.drop_zero, ← e]; rfl⟩
set_option maxHeartbeats 4000000 in
set_option maxRecDepth 100000 in
theorem re_occurs_l {q : rS} {x f g : Int} (E : rE) (hx : ir x) (hg9 : g ≤ 10000) (l : List Int) : ∀ (k : Nat) (aa kk : Int), kk = k → sg q k l → g = (k : Int) + (l.length : Int) → (∀ s ∈ l, ir s) → (aa = 0 ∨ aa = 1) → rX E mm_Re_occurs 6 [some (.inr (some E.1.length)), some (.inl x), some (.inl f), some (.inl g), some (.inl aa), some (.inl kk)] [] q (fun r q' => r = some (.inl (if aa = 1 ∨ x ∈ l then 1 else 0)) ∧ q' = q) := by
  induction l with
  | nil =>
    intro k aa kk hkk hs hg hi ha
    simp at hg
    refine rx (xs_iload dm_Re_occurs_6 rfl) ?_
    refine rx (xs_iload_n dm_Re_occurs_8 rfl) ?_
    refine rx (xs_icmp_ge_t (tgt := 41) dm_Re_occurs_9 rfl (by unfold ir; omega) (by unfold ir; omega) (by omega)) ?_
    refine rx (xs_iload dm_Re_occurs_41 rfl) ?_
    exact rrz dm_Re_occurs_43 rfl ha ⟨vi (by rcases ha with h | h <;> subst h <;> simp), rfl⟩
  | cons s l ih =>
    intro k aa kk hkk hs hg hi ha
    simp only [List.length_cons] at hg
    have his : ir s := hi s List.mem_cons_self
    have hi2 : ∀ z ∈ l, ir z := fun z hz => hi z (List.mem_cons_of_mem _ hz)
    refine rx (xs_iload dm_Re_occurs_6 rfl) ?_
    refine rx (xs_iload_n dm_Re_occurs_8 rfl) ?_
    refine rx (xs_icmp_ge_f (tgt := 41) dm_Re_occurs_9 rfl (by unfold ir; omega) (by unfold ir; omega) (by omega)) ?_
    refine rx (xs_iload dm_Re_occurs_12 rfl) ?_
    refine xx_if_ne (tgt := 28) dm_Re_occurs_14 rfl (by unfold ir; omega) (fun hc => ?_) (fun hc => ?_)
    · change rX E _ 28 _ _ _ _
      refine rx (xs_iconst dm_Re_occurs_28) ?_
      refine rx (xs_goto (tgt := 33) dm_Re_occurs_29 rfl) ?_
      refine rx (xs_istore dm_Re_occurs_33 (by decide)) ?_
      show rX E _ 35 [some (.inr (some E.1.length)), some (.inl x), some (.inl f), some (.inl g), some (.inl 1), some (.inl kk)] [] _ _
      refine rx (xs_iinc dm_Re_occurs_35 rfl (by decide)) ?_
      show rX E _ 38 [some (.inr (some E.1.length)), some (.inl x), some (.inl f), some (.inl g), some (.inl 1), some (.inl (kk + 1))] [] _ _
      refine rx (xs_goto (tgt := 6) dm_Re_occurs_38 rfl) ?_
      have e1 : aa = 1 := by omega
      refine rxq (ih (k + 1) _ _ (by omega) (sg_tl hs) (by omega) hi2 (Or.inr rfl)) ?_
      rintro _ _ ⟨rfl, rfl⟩
      exact ⟨by rw [if_pos (Or.inl rfl), if_pos (Or.inl e1)], rfl⟩
    · change rX E _ 17 _ _ _ _
      refine rx (xs_aload_n dm_Re_occurs_17 rfl) ?_
      refine rx (rg (v := .inr (some (rA E 0))) dm_Re_occurs_18 lf_Re_7 rfl) ?_
      refine rx (xs_iload dm_Re_occurs_21 rfl) ?_
      refine rx (rlv 0 s (by decide) dm_Re_occurs_23 (by omega) (by show _ < ((10000 : Nat) : Int); omega) (by rw [hkk, Int.toNat_natCast]; exact sg_hd hs)) ?_
      refine rx (xs_iload_n dm_Re_occurs_24 rfl) ?_
      refine xx_icmp_ne (tgt := 32) dm_Re_occurs_25 rfl his hx (fun hc2 => ?_) (fun hc2 => ?_)
      · change rX E _ 32 _ _ _ _
        refine rx (xs_iconst dm_Re_occurs_32) ?_
        refine rx (xs_istore dm_Re_occurs_33 (by decide)) ?_
        show rX E _ 35 [some (.inr (some E.1.length)), some (.inl x), some (.inl f), some (.inl g), some (.inl 0), some (.inl kk)] [] _ _
        refine rx (xs_iinc dm_Re_occurs_35 rfl (by decide)) ?_
        show rX E _ 38 [some (.inr (some E.1.length)), some (.inl x), some (.inl f), some (.inl g), some (.inl 0), some (.inl (kk + 1))] [] _ _
        refine rx (xs_goto (tgt := 6) dm_Re_occurs_38 rfl) ?_
        refine rxq (ih (k + 1) _ _ (by omega) (sg_tl hs) (by omega) hi2 (Or.inl rfl)) ?_
        rintro _ _ ⟨rfl, rfl⟩
        refine ⟨?_, rfl⟩
        have e2 : ¬ x = s := fun h => hc2 h.symm
        simp [hc, e2]
      · change rX E _ 28 _ _ _ _
        refine rx (xs_iconst dm_Re_occurs_28) ?_
        refine rx (xs_goto (tgt := 33) dm_Re_occurs_29 rfl) ?_
        refine rx (xs_istore dm_Re_occurs_33 (by decide)) ?_
        show rX E _ 35 [some (.inr (some E.1.length)), some (.inl x), some (.inl f), some (.inl g), some (.inl 1), some (.inl kk)] [] _ _
        refine rx (xs_iinc dm_Re_occurs_35 rfl (by decide)) ?_
        show rX E _ 38 [some (.inr (some E.1.length)), some (.inl x), some (.inl f), some (.inl g), some (.inl 1), some (.inl (kk + 1))] [] _ _
        refine rx (xs_goto (tgt := 6) dm_Re_occurs_38 rfl) ?_
        refine rxq (ih (k + 1) _ _ (by omega) (sg_tl hs) (by omega) hi2 (Or.inr rfl)) ?_
        rintro _ _ ⟨rfl, rfl⟩
        exact ⟨by rw [if_pos (Or.inl rfl), if_pos (Or.inr (by rw [hc2]; exact List.mem_cons_self))], rfl⟩
set_option maxHeartbeats 4000000 in
set_option maxRecDepth 100000 in
theorem re_occurs {q : rS} {x f g : Int} {p : Nat} {l : List Int} (hs : sg q p l) (hx : ir x) (hf : f = p) (hg : g = (p : Int) + (l.length : Int)) (h1 : p + l.length ≤ 10000) (hi : ∀ s ∈ l, ir s) : rM mm_Re_occurs [.inl x, .inl f, .inl g] q (fun r q' => r = some (.inl (if x ∈ l then 1 else 0)) ∧ q' = q) := by
  refine rm rfl (nl rfl) (fun E => ?_)
  show rX E _ 0 [some (.inr (some E.1.length)), some (.inl x), some (.inl f), some (.inl g), none, none] [] _ _
  refine rx (xs_iconst dm_Re_occurs_0) ?_
  refine rx (xs_istore dm_Re_occurs_1 (by decide)) ?_
  show rX E _ 3 [some (.inr (some E.1.length)), some (.inl x), some (.inl f), some (.inl g), some (.inl 0), none] [] _ _
  refine rx (xs_iload_n dm_Re_occurs_3 rfl) ?_
  refine rx (xs_istore dm_Re_occurs_4 (by decide)) ?_
  show rX E _ 6 [some (.inr (some E.1.length)), some (.inl x), some (.inl f), some (.inl g), some (.inl 0), some (.inl f)] [] _ _
  refine rxq (re_occurs_l E hx (by omega) l p _ _ hf hs hg hi (Or.inl rfl)) ?_
  rintro _ _ ⟨rfl, rfl⟩
  exact ⟨by simp, rfl⟩
