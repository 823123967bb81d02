/-! join -/
def eqP (t a l r : List Int) : Prop := t = eqn a l r ∧ isTy a ∧ isTm [] l a ∧ isTm [] r a
theorem eqP_uni {t a l r a' l' r' : List Int} (h : eqP t a l r) (h' : eqP t a' l' r') : a = a' ∧ l = l' ∧ r = r' := by
  obtain ⟨e, ta, tl, tr⟩ := h
  obtain ⟨e', ta', tl', tr'⟩ := h'
  rw [e] at e'
  simp [eqn] at e'
  obtain ⟨e1, e2⟩ := isTy_cut ta ta' e'
  obtain ⟨e3, e4⟩ := isTm_cut tl tl' (by have := isTm_hdT tr []; simpa using this) (by have := isTm_hdT tr' []; simpa using this) e2
  exact ⟨e1, e3, e4⟩
theorem eqP_of {t b : List Int} (ht : isTm [] t b) (h : isE t) : b = [1] ∧ ∃ a l r, eqP t a l r := by
  obtain ⟨rest, e⟩ := h
  rcases isTm_inv ht with ⟨n, _, _, _, e2⟩ | ⟨c, _, _, _, e2⟩ | ⟨s, _, e2, _⟩ | ⟨d, _, _, e2⟩ | ⟨f, x, s, ts, tb, tf, tx, e2⟩ | ⟨s, u, b, _, _, _, e2, _⟩
  · rw [e] at e2; simp at e2
  · rw [e] at e2; simp at e2
  · rw [e] at e2; simp at e2
  · rw [e] at e2; simp at e2
  · rw [e] at e2
    simp at e2
    rcases isTm_inv tf with ⟨n, _, _, _, e3⟩ | ⟨c, _, _, _, e3⟩ | ⟨s', _, e3, _⟩ | ⟨d, _, _, e3⟩ | ⟨f', x', s', ts', tb', tf', tx', e3⟩ | ⟨c, u, b, tc, tb, tu, e3, e4⟩
    · rw [e3] at e2; simp at e2
    · rw [e3] at e2; simp at e2
    · rw [e3] at e2; simp at e2
    · rw [e3] at e2; simp at e2; omega
    · rw [e3] at e2
      simp at e2
      rcases isTm_inv tf' with ⟨n, _, _, _, e5⟩ | ⟨c, c1, _, _, e5⟩ | ⟨a, ta, e5, e6⟩ | ⟨d, _, _, e5⟩ | ⟨f2, x2, s2, _, _, _, _, e5⟩ | ⟨c, u, b, _, _, _, e5, _⟩
      · rw [e5] at e2; simp at e2
      · rw [e5] at e2; simp at e2; omega
      · rw [e5] at e2
        simp at e2
        obtain ⟨h1, h2⟩ := isTy_fi ts' ta e6
        obtain ⟨h3, h4⟩ := isTy_fi ts ta h2
        refine ⟨h4, a, x', x, ?_, ta, by rw [← h1]; exact tx', by rw [← h3]; exact tx⟩
        rw [e, e2]
        simp [eqn]
      · rw [e5] at e2; simp at e2; omega
      · rw [e5] at e2; simp at e2
      · rw [e5] at e2; simp at e2
    · rw [e3] at e2; simp at e2
  · rw [e] at e2; simp at e2
noncomputable def eqx (t : List Int) : List Int × List Int × List Int := Classical.epsilon (fun p : List Int × List Int × List Int => eqP t p.1 p.2.1 p.2.2)
theorem eqx_of {t a l r : List Int} (h : eqP t a l r) : eqx t = (a, l, r) := by
  have h1 := Classical.epsilon_spec (p := fun p : List Int × List Int × List Int => eqP t p.1 p.2.1 p.2.2) ⟨(a, l, r), h⟩
  obtain ⟨e1, e2, e3⟩ := eqP_uni h h1
  show Classical.epsilon (fun p : List Int × List Int × List Int => eqP t p.1 p.2.1 p.2.2) = _
  generalize Classical.epsilon (fun p : List Int × List Int × List Int => eqP t p.1 p.2.1 p.2.2) = p at h1 e1 e2 e3
  rw [e1, e2, e3]
theorem hin_fl {l : List Int} {x : List (List Int) × Bool} (h : (hin l x).2 = false) : x.2 = false := by
  unfold hin at h
  split at h
  · exact h
  · split at h
    · simp at h
    · exact h
theorem brg_fl {bl : List Int} : ∀ {hs : List (List Int)} {x : List (List Int) × Bool}, (brg bl x hs).2 = false → x.2 = false := by
  intro hs
  induction hs with
  | nil => intro x h; exact h
  | cons a hs ih =>
    intro x h
    have h1 := ih (x := if a = bl then x else hin a x) h
    split at h1
    · exact h1
    · exact hin_fl h1
theorem rOb_W {q q' : rS} {l : List Int} {hs hs' : List (List Int)} (h : rOb q 28 (2, l, hs)) (hw : frW q q') (h5 : 5200 ≤ q 6 5) (hy : hyR q' 28 hs') : rOb q' 28 (2, l, hs') := by
  obtain ⟨a1, ⟨b1, b2, b3⟩, -⟩ := h
  have b4 : l.length ≤ 40 := b3
  refine ⟨by rw [hw _ _ (by omega) (by omega) (by omega) (by omega) (by omega)]; exact a1, ⟨by rw [hw _ _ (by omega) (by omega) (by omega) (by omega) (by omega)]; exact b1, sg_mono b2 (fun k k1 k2 => ?_), b3⟩, hy⟩
  have k3 : k < 160 * 28 + 40 * 0 + l.length := k2
  exact hw _ _ (by omega) (by omega) (by omega) (by omega) (by omega)
noncomputable def st_eqmp (M : mS) : Int × mS := ifc (isE (mn M 1) ∧ (eqx (mn M 1)).2.1 = mn M 0) (fi M 2 (2, (eqx (mn M 1)).2.2, (brg [] (brg [] ([], decide (40 < (eqx (mn M 1)).2.2.length)) (hp M 1)) (hp M 0)).1) (brg [] (brg [] ([], decide (40 < (eqx (mn M 1)).2.2.length)) (hp M 1)) (hp M 0)).2) (2, M)
/-- the equation between two applications -/
def apE (d : List Int) (p p' : List Int × List Int × List Int) : List Int := eqn d (12 :: (p.2.1 ++ p'.2.1)) (12 :: (p.2.2 ++ p'.2.2))
noncomputable def st_cong (M : mS) : Int × mS := ifc (isE (mn M 1) ∧ isE (mn M 0) ∧ ∃ d, (eqx (mn M 1)).1 = 0 :: ((eqx (mn M 0)).1 ++ d)) (fi M 2 (2, apE ((eqx (mn M 1)).1.drop (1 + (eqx (mn M 0)).1.length)) (eqx (mn M 1)) (eqx (mn M 0)), (brg [] (brg [] ([], decide (40 < (apE ((eqx (mn M 1)).1.drop (1 + (eqx (mn M 0)).1.length)) (eqx (mn M 1)) (eqx (mn M 0))).length)) (hp M 1)) (hp M 0)).1) (brg [] (brg [] ([], decide (40 < (apE ((eqx (mn M 1)).1.drop (1 + (eqx (mn M 0)).1.length)) (eqx (mn M 1)) (eqx (mn M 0))).length)) (hp M 1)) (hp M 0)).2) (2, M)
noncomputable def st_ded (M : mS) : Int × mS := fi M 2 (2, eqn [1] (mn M 1) (mn M 0), (brg (mn M 1) (brg (mn M 0) ([], false) (hp M 1)) (hp M 0)).1) (decide (40 < (eqn [1] (mn M 1) (mn M 0)).length) || (brg (mn M 1) (brg (mn M 0) ([], false) (hp M 1)) (hp M 0)).2)
noncomputable def st_join (M : mS) (c : Int) : Int × mS := if ¬ (kd M 0 = 2 ∧ kd M 1 = 2) then (1, M) else if c = 0 then st_eqmp M else if c = 1 then st_cong M else if c = 2 then st_ded M else (2, M)
set_option maxHeartbeats 4000000 in
set_option maxRecDepth 100000 in
theorem re_join_t {q : rS} {M : mS} (E : rE) (hg : gM M) (hR : Rl q M) {x0 x1 : oB} (hx0 : M.1[0]? = some x0) (hx1 : M.1[1]? = some x1) {o1 o2 o3 o4 o5 o6 o7 : Option xV} {qb : rS} {s : Nat} {l : List Int} {ss : Int} (hss : ss = s) (b5 : qb 6 5 = (s : Int)) (hs5 : 5200 ≤ s) (hs6 : s ≤ 9000) (hsl : s + l.length ≤ 10000) (fb : frM q qb) (k28 : qb 2 28 = 2) (h28 : hyR qb 28 []) (g28 : qb 6 6 = 0) (lkb : lok qb) : rX E mm_Re_join 254 [some (.inr (some E.1.length)), o1, o2, o3, o4, o5, o6, o7, some (.inl ss)] [] (emL qb l) (fun r q' => r = some (.inl (fi M 2 (2, l, (brg [] (brg [] ([], decide (40 < l.length)) x1.2.2) x0.2.2).1) (brg [] (brg [] ([], decide (40 < l.length)) x1.2.2) x0.2.2).2).1) ∧ Rl q' (fi M 2 (2, l, (brg [] (brg [] ([], decide (40 < l.length)) x1.2.2) x0.2.2).1) (brg [] (brg [] ([], decide (40 < l.length)) x1.2.2) x0.2.2).2).2) := by
  have g6 := hg.2.2.2.2.2.1
  have g7 := hg.2.2.2.2.2.2.1
  have g8 := hg.2.2.2.2.2.2.2.1
  have g9 := hg.2.2.2.2.2.2.2.2.1
  have g10 := hg.2.2.2.2.2.2.2.2.2
  have r1 := hR.1
  have r4 : q 6 1 = (M.2.2.1.length : Int) := hR.2.2.2.1
  have r6 : q 6 2 = (M.2.2.2.1.length : Int) := hR.2.2.2.2.2.1
  have r8 : q 6 3 = (M.2.2.2.2.1.length : Int) := hR.2.2.2.2.2.2.2.1
  have r10 : q 6 4 = (M.2.2.2.2.2 : Int) := hR.2.2.2.2.2.2.2.2.2.1
  have hlk := hR.2.2.2.2.2.2.2.2.2.2
  obtain ⟨wa0, wb0, wc0⟩ := Rl_row hR hx0
  have hlt0 := (List.getElem?_eq_some_iff.mp hx0).1
  have gx0 := gM_top hg hx0
  obtain ⟨wa1, wb1, wc1⟩ := Rl_row hR hx1
  have hlt1 := (List.getElem?_eq_some_iff.mp hx1).1
  have gx1 := gM_top hg hx1
  have fe : frM q (emL qb l) := frM_tr fb (frM_emL (by omega))
  have key := pa_B (q := emL qb l) (s := s) (l := l) (k := 2) (x := ([], false)) (emL_sg (by omega) b5) (by rw [emL_a (by omega) (by omega)]; exact k28) ⟨emL_h (by omega) h28, by rw [emL_s (by omega)]; exact g28⟩ (lok_emL lkb)
  simp only [Bool.or_false] at key
  have fp : frM q (paF (emL qb l) s l.length) := frM_tr fe (frM_part (by decide))
  show rX E _ 254 [some (.inr (some E.1.length)), o1, o2, o3, o4, o5, o6, o7, some (.inl ss)] [] _ _
  refine rx (xs_aload_n dm_Re_join_254 rfl) ?_
  refine rx (xs_iconst dm_Re_join_255) ?_
  refine rx (xs_iload dm_Re_join_256 rfl) ?_
  refine rcV (as := [.inl 0, .inl ss]) (rest := []) dm_Re_join_258 lc_Re_part lm_Re_66 li_Re_part (nr rfl rfl) rfl rfl rfl (nl rfl) (re_pa (s := s) (n := l.length) hss (by rw [emL_out, b5]) hs5 hsl) ?_
  rintro _ _ ⟨rfl, rfl⟩
  show rX E _ 261 [some (.inr (some E.1.length)), o1, o2, o3, o4, o5, o6, o7, some (.inl ss)] [] _ _
  refine rx (xs_aload_n dm_Re_join_261 rfl) ?_
  refine rx (xs_iload dm_Re_join_262 rfl) ?_
  refine rx (rp 5 (by decide) dm_Re_join_264 lp_Re_28 (x_ft_i _)) ?_
  have f3 : frM q (u3 (paF (emL qb l) s l.length) 6 5 ss) := frM_tr fp (frM_u6 (by omega))
  have e5 : (u3 (paF (emL qb l) s l.length) 6 5 ss) 6 5 = (s : Int) := by rw [u3_eq]; exact hss
  have lk3 : lok (u3 (paF (emL qb l) s l.length) 6 5 ss) := lok_u6 key.2.1
  have ob3 : l.length ≤ 40 → rOb (u3 (paF (emL qb l) s l.length) 6 5 ss) 28 (2, l, []) := fun hl => rOb_fr (key.1 hl) (fun a k ht => u3_ne (by unfold tch at ht; omega))
  have hy3 : hyB (u3 (paF (emL qb l) s l.length) 6 5 ss) ([], decide (40 < l.length)) := ⟨hyR_fr key.2.2.1 (fun a k ht => u3_ne (by unfold tch at ht; omega)), by rw [u3_ne (by omega)]; exact key.2.2.2⟩
  generalize u3 (paF (emL qb l) s l.length) 6 5 ss = q3 at f3 e5 lk3 ob3 hy3 ⊢
  have R3 := Rl_fr hg hR f3 lk3
  have s3 : q3 6 0 = (M.1.length : Int) := R3.1
  show rX E _ 267 [some (.inr (some E.1.length)), o1, o2, o3, o4, o5, o6, o7, some (.inl ss)] [] _ _
  refine rx (xs_aload_n dm_Re_join_267 rfl) ?_
  refine rx (xs_aload_n dm_Re_join_268 rfl) ?_
  refine rx (rg (v := .inl (q3 6 0)) dm_Re_join_269 lf_Re_79 rfl) ?_
  refine rx (xs_iconst dm_Re_join_272) ?_
  refine rx (xs_isub dm_Re_join_273) ?_
  refine rx (xs_iconst dm_Re_join_274) ?_
  refine rx (xs_iconst dm_Re_join_275) ?_
  have hya := (R3.2.1 1 x1 hx1).2.2
  refine rcV (as := [.inl ((q3 6 0) - 2), .inl 0, .inl 0]) (rest := []) dm_Re_join_276 lc_Re_bring lm_Re_158 li_Re_bring (nr rfl rfl) rfl rfl rfl (nl rfl) (re_bring (o := M.1.length - 1 - 1) (pb := 0) (bl := []) (hs := x1.2.2) (x := ([], decide (40 < l.length))) (by omega) (by omega) rfl rfl (by simp) (by simp [irL]) (gO_ir gx1).2 hya (fun i y hy => by simp at hy) hy3 lk3 (by simp) (by omega) (by omega)) ?_
  rintro _ q4 ⟨rfl, hy4, fw4, lk4, hi4⟩
  show rX E _ 279 [some (.inr (some E.1.length)), o1, o2, o3, o4, o5, o6, o7, some (.inl ss)] [] _ _
  have f4 : frM q q4 := frM_tr f3 (frM_W fw4 (by omega))
  have R4 := Rl_fr hg hR f4 lk4
  have s4 : q4 6 0 = (M.1.length : Int) := R4.1
  have e54 : q4 6 5 = (s : Int) := by rw [fw4 _ _ (by omega) (by omega) (by omega) (by omega) (by omega)]; exact e5
  have hyb := (R4.2.1 0 x0 hx0).2.2
  refine rx (xs_aload_n dm_Re_join_279 rfl) ?_
  refine rx (xs_aload_n dm_Re_join_280 rfl) ?_
  refine rx (rg (v := .inl (q4 6 0)) dm_Re_join_281 lf_Re_79 rfl) ?_
  refine rx (xs_iconst dm_Re_join_284) ?_
  refine rx (xs_isub dm_Re_join_285) ?_
  refine rx (xs_iconst dm_Re_join_286) ?_
  refine rx (xs_iconst dm_Re_join_287) ?_
  refine rcV (as := [.inl ((q4 6 0) - 1), .inl 0, .inl 0]) (rest := []) dm_Re_join_288 lc_Re_bring lm_Re_158 li_Re_bring (nr rfl rfl) rfl rfl rfl (nl rfl) (re_bring (o := M.1.length - 1 - 0) (pb := 0) (bl := []) (hs := x0.2.2) (by omega) (by omega) rfl rfl (by simp) (by simp [irL]) (gO_ir gx0).2 hyb (fun i y hy => by simp at hy) hy4 lk4 hi4 (by omega) (by omega)) ?_
  rintro _ q5 ⟨rfl, hy5, fw5, lk5, hi5⟩
  show rX E _ 291 [some (.inr (some E.1.length)), o1, o2, o3, o4, o5, o6, o7, some (.inl ss)] [] _ _
  have f5 : frM q q5 := frM_tr f4 (frM_W fw5 (by omega))
  refine rx (xs_aload_n dm_Re_join_291 rfl) ?_
  refine rx (xs_iconst dm_Re_join_292) ?_
  refine rcV (as := [.inl 2]) (rest := []) dm_Re_join_293 lc_Re_done lm_Re_91 li_Re_done (nr rfl rfl) rfl rfl rfl (nl rfl) (re_done (n := 2) (x := (2, l, (brg [] (brg [] ([], decide (40 < l.length)) x1.2.2) x0.2.2).1)) (b := (brg [] (brg [] ([], decide (40 < l.length)) x1.2.2) x0.2.2).2) hg (Rl_fr hg hR f5 lk5) rfl (by omega) (by omega) hy5.2 (fun hh => rOb_W (rOb_W (ob3 (by have := brg_fl (brg_fl hh); simp only [decide_eq_false_iff_not] at this; omega)) fw4 (by omega) hy4.1) fw5 (by omega) hy5.1)) ?_
  rintro _ q9 ⟨rfl, hR9⟩
  show rX E _ 296 [some (.inr (some E.1.length)), o1, o2, o3, o4, o5, o6, o7, some (.inl ss)] [.inl (fi M 2 (2, l, (brg [] (brg [] ([], decide (40 < l.length)) x1.2.2) x0.2.2).1) (brg [] (brg [] ([], decide (40 < l.length)) x1.2.2) x0.2.2).2).1] _ _
  exact rri dm_Re_join_296 rfl ⟨rfl, hR9⟩
set_option maxHeartbeats 4000000 in
set_option maxRecDepth 100000 in
theorem re_join2 {q : rS} {M : mS} (hg : gM M) (hR : Rl q M) (hk0 : kd M 0 = 2) (hk1 : kd M 1 = 2) : rM mm_Re_join [.inl 2] q (fun r q' => r = some (.inl (st_ded M).1) ∧ Rl q' (st_ded M).2) := by
  refine rm rfl (nl rfl) (fun E => ?_)
  have g6 := hg.2.2.2.2.2.1
  have g7 := hg.2.2.2.2.2.2.1
  have g8 := hg.2.2.2.2.2.2.2.1
  have g9 := hg.2.2.2.2.2.2.2.2.1
  have g10 := hg.2.2.2.2.2.2.2.2.2
  have r1 := hR.1
  have r4 : q 6 1 = (M.2.2.1.length : Int) := hR.2.2.2.1
  have r6 : q 6 2 = (M.2.2.2.1.length : Int) := hR.2.2.2.2.2.1
  have r8 : q 6 3 = (M.2.2.2.2.1.length : Int) := hR.2.2.2.2.2.2.2.1
  have r10 : q 6 4 = (M.2.2.2.2.2 : Int) := hR.2.2.2.2.2.2.2.2.2.1
  have hlk := hR.2.2.2.2.2.2.2.2.2.2
  have i0 := (kd_ir hg 0).1
  have i1 := (kd_ir hg 1).1
  obtain ⟨x0, hx0, ka0, kb0, kc0⟩ := kd_some (M := M) (i := 0) (by rw [hk0]; decide)
  obtain ⟨wa0, wb0, wc0⟩ := Rl_row hR hx0
  have hlt0 := (List.getElem?_eq_some_iff.mp hx0).1
  have gx0 := gM_top hg hx0
  obtain ⟨x1, hx1, ka1, kb1, kc1⟩ := kd_some (M := M) (i := 1) (by rw [hk1]; decide)
  obtain ⟨wa1, wb1, wc1⟩ := Rl_row hR hx1
  have hlt1 := (List.getElem?_eq_some_iff.mp hx1).1
  have gx1 := gM_top hg hx1
  obtain ⟨ht0, hl0, hn0, hs0, hh0⟩ := gO_2 gx0 (ka0.symm.trans hk0)
  obtain ⟨ht1, hl1, hn1, hs1, hh1⟩ := gO_2 gx1 (ka1.symm.trans hk1)
  show rX E _ 0 [some (.inr (some E.1.length)), some (.inl 2), none, none, none, none, none, none, none] [] _ _
  refine rx (xs_aload_n dm_Re_join_0 rfl) ?_
  refine rx (xs_iconst dm_Re_join_1) ?_
  refine rcV (as := [.inl 0]) (rest := []) dm_Re_join_2 lc_Re_top lm_Re_85 li_Re_top (nr rfl rfl) rfl rfl rfl (nl rfl) (re_top' (i := 0) hg hR rfl (by decide)) ?_
  rintro _ q1 ⟨rfl, hq1⟩
  have hq1 := hq1.symm
  subst hq1
  show rX E _ 5 [some (.inr (some E.1.length)), some (.inl 2), none, none, none, none, none, none, none] [.inl (kd M 0)] _ _
  refine rx (xs_iconst dm_Re_join_5) ?_
  refine rx (xs_icmp_ne_f (tgt := 18) dm_Re_join_6 rfl i0 (by unfold ir; omega) hk0) ?_
  refine rx (xs_aload_n dm_Re_join_9 rfl) ?_
  refine rx (xs_iconst dm_Re_join_10) ?_
  refine rcV (as := [.inl 1]) (rest := []) dm_Re_join_11 lc_Re_top lm_Re_85 li_Re_top (nr rfl rfl) rfl rfl rfl (nl rfl) (re_top' (i := 1) hg hR rfl (by decide)) ?_
  rintro _ q1 ⟨rfl, hq1⟩
  have hq1 := hq1.symm
  subst hq1
  show rX E _ 14 [some (.inr (some E.1.length)), some (.inl 2), none, none, none, none, none, none, none] [.inl (kd M 1)] _ _
  refine rx (xs_iconst dm_Re_join_14) ?_
  refine rx (xs_icmp_eq_t (tgt := 20) dm_Re_join_15 rfl i1 (by unfold ir; omega) hk1) ?_
  refine rx (xs_iload_n dm_Re_join_20 rfl) ?_
  refine rx (xs_if_lt_f (tgt := 29) dm_Re_join_21 rfl (by unfold ir; omega) (by decide)) ?_
  refine rx (xs_iload_n dm_Re_join_24 rfl) ?_
  refine rx (xs_iconst dm_Re_join_25) ?_
  refine rx (xs_icmp_le_t (tgt := 31) dm_Re_join_26 rfl (by unfold ir; omega) (by unfold ir; omega) (by decide)) ?_
  refine rx (xs_aload_n dm_Re_join_31 rfl) ?_
  refine rcV (as := []) (rest := []) dm_Re_join_32 lc_Re_begin lm_Re_88 li_Re_begin (nr rfl rfl) rfl rfl rfl (nl rfl) (re_begin) ?_
  rintro _ _ ⟨rfl, rfl⟩
  show rX E _ 35 [some (.inr (some E.1.length)), some (.inl 2), none, none, none, none, none, none, none] [] _ _
  have w5 := bg_5 q
  have fg := frM_bg q
  have lkg := lok_bg hlk
  have R0 := Rl_fr hg hR fg lkg
  have z0 : (bg q) 6 0 = (M.1.length : Int) := R0.1
  have k28 := bg_2 q
  have h28 := hy0 (bg_3 q)
  have g28 := bg_6 q
  have sw0 := frM_sg fg wb0 (by omega)
  have sw1 := frM_sg fg wb1 (by omega)
  generalize bg q = qg at w5 fg lkg R0 z0 k28 h28 g28 sw0 sw1 ⊢
  show rX E _ 35 [some (.inr (some E.1.length)), some (.inl 2), none, none, none, none, none, none, none] [] _ _
  refine rx (xs_aload_n dm_Re_join_35 rfl) ?_
  refine rx (xs_iconst dm_Re_join_36) ?_
  refine rcV (as := [.inl 1]) (rest := []) dm_Re_join_37 lc_Re_rowOf lm_Re_94 li_Re_rowOf (nr rfl rfl) rfl rfl rfl (nl rfl) (re_rowOf' R0 rfl hx1) ?_
  rintro _ q1 ⟨rfl, hq1⟩
  have hq1 := hq1.symm
  subst hq1
  show rX E _ 40 [some (.inr (some E.1.length)), some (.inl 2), none, none, none, none, none, none, none] [.inl ((160 * (M.1.length - 1 - 1) : Nat) : Int)] _ _
  refine rx (xs_istore_n dm_Re_join_40 (by decide)) ?_
  show rX E _ 41 [some (.inr (some E.1.length)), some (.inl 2), some (.inl ((160 * (M.1.length - 1 - 1) : Nat) : Int)), none, none, none, none, none, none] [] _ _
  refine rx (xs_aload_n dm_Re_join_41 rfl) ?_
  refine rx (xs_iconst dm_Re_join_42) ?_
  refine rcV (as := [.inl 1]) (rest := []) dm_Re_join_43 lc_Re_rowEnd lm_Re_97 li_Re_rowEnd (nr rfl rfl) rfl rfl rfl (nl rfl) (re_rowEnd' hg R0 rfl hx1) ?_
  rintro _ q1 ⟨rfl, hq1⟩
  have hq1 := hq1.symm
  subst hq1
  show rX E _ 46 [some (.inr (some E.1.length)), some (.inl 2), some (.inl ((160 * (M.1.length - 1 - 1) : Nat) : Int)), none, none, none, none, none, none] [.inl (((160 * (M.1.length - 1 - 1) : Nat) : Int) + (x1.2.1.length : Int))] _ _
  refine rx (xs_istore_n dm_Re_join_46 (by decide)) ?_
  show rX E _ 47 [some (.inr (some E.1.length)), some (.inl 2), some (.inl ((160 * (M.1.length - 1 - 1) : Nat) : Int)), some (.inl (((160 * (M.1.length - 1 - 1) : Nat) : Int) + (x1.2.1.length : Int))), none, none, none, none, none] [] _ _
  refine rx (xs_aload_n dm_Re_join_47 rfl) ?_
  refine rx (xs_iconst dm_Re_join_48) ?_
  refine rcV (as := [.inl 0]) (rest := []) dm_Re_join_49 lc_Re_rowOf lm_Re_94 li_Re_rowOf (nr rfl rfl) rfl rfl rfl (nl rfl) (re_rowOf' R0 rfl hx0) ?_
  rintro _ q1 ⟨rfl, hq1⟩
  have hq1 := hq1.symm
  subst hq1
  show rX E _ 52 [some (.inr (some E.1.length)), some (.inl 2), some (.inl ((160 * (M.1.length - 1 - 1) : Nat) : Int)), some (.inl (((160 * (M.1.length - 1 - 1) : Nat) : Int) + (x1.2.1.length : Int))), none, none, none, none, none] [.inl ((160 * (M.1.length - 1 - 0) : Nat) : Int)] _ _
  refine rx (xs_istore dm_Re_join_52 (by decide)) ?_
  show rX E _ 54 [some (.inr (some E.1.length)), some (.inl 2), some (.inl ((160 * (M.1.length - 1 - 1) : Nat) : Int)), some (.inl (((160 * (M.1.length - 1 - 1) : Nat) : Int) + (x1.2.1.length : Int))), some (.inl ((160 * (M.1.length - 1 - 0) : Nat) : Int)), none, none, none, none] [] _ _
  refine rx (xs_aload_n dm_Re_join_54 rfl) ?_
  refine rx (xs_iconst dm_Re_join_55) ?_
  refine rcV (as := [.inl 0]) (rest := []) dm_Re_join_56 lc_Re_rowEnd lm_Re_97 li_Re_rowEnd (nr rfl rfl) rfl rfl rfl (nl rfl) (re_rowEnd' hg R0 rfl hx0) ?_
  rintro _ q1 ⟨rfl, hq1⟩
  have hq1 := hq1.symm
  subst hq1
  show rX E _ 59 [some (.inr (some E.1.length)), some (.inl 2), some (.inl ((160 * (M.1.length - 1 - 1) : Nat) : Int)), some (.inl (((160 * (M.1.length - 1 - 1) : Nat) : Int) + (x1.2.1.length : Int))), some (.inl ((160 * (M.1.length - 1 - 0) : Nat) : Int)), none, none, none, none] [.inl (((160 * (M.1.length - 1 - 0) : Nat) : Int) + (x0.2.1.length : Int))] _ _
  refine rx (xs_istore dm_Re_join_59 (by decide)) ?_
  show rX E _ 61 [some (.inr (some E.1.length)), some (.inl 2), some (.inl ((160 * (M.1.length - 1 - 1) : Nat) : Int)), some (.inl (((160 * (M.1.length - 1 - 1) : Nat) : Int) + (x1.2.1.length : Int))), some (.inl ((160 * (M.1.length - 1 - 0) : Nat) : Int)), some (.inl (((160 * (M.1.length - 1 - 0) : Nat) : Int) + (x0.2.1.length : Int))), none, none, none] [] _ _
  refine rx (xs_iload_n dm_Re_join_61 rfl) ?_
  refine rx (xs_iconst dm_Re_join_62) ?_
  refine rx (xs_icmp_ne_f (tgt := 135) dm_Re_join_63 rfl (by unfold ir; omega) (by unfold ir; omega) (by simp)) ?_
  refine rx (xs_aload_n dm_Re_join_66 rfl) ?_
  refine rx (xs_aload_n dm_Re_join_67 rfl) ?_
  refine rx (rg (v := .inl (qg 6 0)) dm_Re_join_68 lf_Re_79 rfl) ?_
  refine rx (xs_iconst dm_Re_join_71) ?_
  refine rx (xs_isub dm_Re_join_72) ?_
  refine rx (xs_iload dm_Re_join_73 rfl) ?_
  refine rx (xs_iload dm_Re_join_75 rfl) ?_
  have hya := (R0.2.1 1 x1 hx1).2.2
  refine rcV (as := [.inl ((qg 6 0) - 2), .inl ((160 * (M.1.length - 1 - 0) : Nat) : Int), .inl (((160 * (M.1.length - 1 - 0) : Nat) : Int) + (x0.2.1.length : Int))]) (rest := []) dm_Re_join_77 lc_Re_bring lm_Re_158 li_Re_bring (nr rfl rfl) rfl rfl rfl (nl rfl) (re_bring (o := M.1.length - 1 - 1) (pb := 160 * (M.1.length - 1 - 0)) (bl := x0.2.1) (hs := x1.2.2) (x := ([], false)) (by omega) (by omega) rfl rfl (by omega) (gO_ir gx0).1 (gO_ir gx1).2 hya sw0 ⟨h28, g28⟩ lkg (by simp) (by omega) (by omega)) ?_
  rintro _ q4 ⟨rfl, hy4, fw4, lk4, hi4⟩
  show rX E _ 80 [some (.inr (some E.1.length)), some (.inl 2), some (.inl ((160 * (M.1.length - 1 - 1) : Nat) : Int)), some (.inl (((160 * (M.1.length - 1 - 1) : Nat) : Int) + (x1.2.1.length : Int))), some (.inl ((160 * (M.1.length - 1 - 0) : Nat) : Int)), some (.inl (((160 * (M.1.length - 1 - 0) : Nat) : Int) + (x0.2.1.length : Int))), none, none, none] [] _ _
  have f4 : frM q q4 := frM_tr fg (frM_W fw4 (by omega))
  have R4 := Rl_fr hg hR f4 lk4
  have s4 : q4 6 0 = (M.1.length : Int) := R4.1
  have e54 : q4 6 5 = 5200 := by rw [fw4 _ _ (by omega) (by omega) (by omega) (by omega) (by omega)]; exact w5
  have hyb := (R4.2.1 0 x0 hx0).2.2
  refine rx (xs_aload_n dm_Re_join_80 rfl) ?_
  refine rx (xs_aload_n dm_Re_join_81 rfl) ?_
  refine rx (rg (v := .inl (q4 6 0)) dm_Re_join_82 lf_Re_79 rfl) ?_
  refine rx (xs_iconst dm_Re_join_85) ?_
  refine rx (xs_isub dm_Re_join_86) ?_
  refine rx (xs_iload_n dm_Re_join_87 rfl) ?_
  refine rx (xs_iload_n dm_Re_join_88 rfl) ?_
  refine rcV (as := [.inl ((q4 6 0) - 1), .inl ((160 * (M.1.length - 1 - 1) : Nat) : Int), .inl (((160 * (M.1.length - 1 - 1) : Nat) : Int) + (x1.2.1.length : Int))]) (rest := []) dm_Re_join_89 lc_Re_bring lm_Re_158 li_Re_bring (nr rfl rfl) rfl rfl rfl (nl rfl) (re_bring (o := M.1.length - 1 - 0) (pb := 160 * (M.1.length - 1 - 1)) (bl := x1.2.1) (hs := x0.2.2) (by omega) (by omega) rfl rfl (by omega) (gO_ir gx1).1 (gO_ir gx0).2 hyb (frM_sg f4 wb1 (by omega)) hy4 lk4 hi4 (by omega) (by omega)) ?_
  rintro _ q5 ⟨rfl, hy5, fw5, lk5, hi5⟩
  show rX E _ 92 [some (.inr (some E.1.length)), some (.inl 2), some (.inl ((160 * (M.1.length - 1 - 1) : Nat) : Int)), some (.inl (((160 * (M.1.length - 1 - 1) : Nat) : Int) + (x1.2.1.length : Int))), some (.inl ((160 * (M.1.length - 1 - 0) : Nat) : Int)), some (.inl (((160 * (M.1.length - 1 - 0) : Nat) : Int) + (x0.2.1.length : Int))), none, none, none] [] _ _
  have f5 : frM q q5 := frM_tr f4 (frM_W fw5 (by omega))
  have e55 : q5 6 5 = 5200 := by rw [fw5 _ _ (by omega) (by omega) (by omega) (by omega) (by omega)]; exact e54
  have k5 : q5 2 28 = 2 := by rw [fw5 _ _ (by omega) (by omega) (by omega) (by omega) (by omega), fw4 _ _ (by omega) (by omega) (by omega) (by omega) (by omega)]; exact k28
  refine rx (xs_aload_n dm_Re_join_92 rfl) ?_
  refine rx (xs_iconst dm_Re_join_93) ?_
  refine rcV (as := [.inl 1]) (rest := []) dm_Re_join_94 lc_Re_emit lm_Re_32 li_Re_emit (nr rfl rfl) rfl rfl rfl (nl rfl) (re_emit (x := 1) (by omega) (by omega)) ?_
  rintro _ _ ⟨rfl, rfl⟩
  show rX E _ 97 [some (.inr (some E.1.length)), some (.inl 2), some (.inl ((160 * (M.1.length - 1 - 1) : Nat) : Int)), some (.inl (((160 * (M.1.length - 1 - 1) : Nat) : Int) + (x1.2.1.length : Int))), some (.inl ((160 * (M.1.length - 1 - 0) : Nat) : Int)), some (.inl (((160 * (M.1.length - 1 - 0) : Nat) : Int) + (x0.2.1.length : Int))), none, none, none] [] _ _
  have e56 : (em q5 1) 6 5 = ((5201 : Nat) : Int) := by rw [em_out, e55]; rfl
  have f6 : frM q (em q5 1) := frM_tr f5 (frM_emL (l := [1]) (by omega))
  have sg6 : sg (em q5 1) 5200 [1] := emL_sg (q := q5) (l := [1]) (p := 5200) (by omega) e55
  have k6 : (em q5 1) 2 28 = 2 := by rw [em_a (by omega) (by omega)]; exact k5
  have hy6 : hyB (em q5 1) (brg x1.2.1 (brg x0.2.1 ([], false) x1.2.2) x0.2.2) := ⟨emL_h (q := q5) (l := [1]) (by omega) hy5.1, by rw [em_s (by omega)]; exact hy5.2⟩
  have lk6 : lok (em q5 1) := lok_emL (q := q5) (l := [1]) lk5
  generalize em q5 1 = q6 at e56 f6 sg6 k6 hy6 lk6 ⊢
  show rX E _ 97 [some (.inr (some E.1.length)), some (.inl 2), some (.inl ((160 * (M.1.length - 1 - 1) : Nat) : Int)), some (.inl (((160 * (M.1.length - 1 - 1) : Nat) : Int) + (x1.2.1.length : Int))), some (.inl ((160 * (M.1.length - 1 - 0) : Nat) : Int)), some (.inl (((160 * (M.1.length - 1 - 0) : Nat) : Int) + (x0.2.1.length : Int))), none, none, none] [] _ _
  refine rx (xs_aload_n dm_Re_join_97 rfl) ?_
  refine rx (xs_sipush dm_Re_join_98 (by decide)) ?_
  refine rx (xs_sipush dm_Re_join_101 (by decide)) ?_
  have oE := emL_out q6 (12 :: 12 :: 11 :: 0 :: [1])
  simp only [List.length_cons, List.length_nil] at oE
  refine rcV (as := [.inl 5200, .inl 5201]) (rest := []) dm_Re_join_104 lc_Re_beginEquation lm_Re_143 li_Re_beginEquation (nr rfl rfl) rfl rfl rfl (nl rfl) (re_beginEquation (p := 5200) sg6 rfl rfl (by omega) (by simp; omega)) ?_
  rintro _ _ ⟨rfl, rfl⟩
  show rX E _ 107 [some (.inr (some E.1.length)), some (.inl 2), some (.inl ((160 * (M.1.length - 1 - 1) : Nat) : Int)), some (.inl (((160 * (M.1.length - 1 - 1) : Nat) : Int) + (x1.2.1.length : Int))), some (.inl ((160 * (M.1.length - 1 - 0) : Nat) : Int)), some (.inl (((160 * (M.1.length - 1 - 0) : Nat) : Int) + (x0.2.1.length : Int))), none, none, none] [] _ _
  refine rx (xs_aload_n dm_Re_join_107 rfl) ?_
  refine rx (xs_iload_n dm_Re_join_108 rfl) ?_
  refine rx (xs_iload_n dm_Re_join_109 rfl) ?_
  have f7 : frM q (emL q6 (12 :: 12 :: 11 :: 0 :: [1])) := frM_tr f6 (frM_emL (by omega))
  have oF := emL_out (emL q6 (12 :: 12 :: 11 :: 0 :: [1])) x1.2.1
  refine rcV (as := [.inl ((160 * (M.1.length - 1 - 1) : Nat) : Int), .inl (((160 * (M.1.length - 1 - 1) : Nat) : Int) + (x1.2.1.length : Int))]) (rest := []) dm_Re_join_110 lc_Re_emitRow lm_Re_43 li_Re_emitRow (nr rfl rfl) rfl rfl rfl (nl rfl) (re_emitRow (frM_sg f7 wb1 (by omega)) rfl rfl (by omega) (by omega)) ?_
  rintro _ _ ⟨rfl, rfl⟩
  show rX E _ 113 [some (.inr (some E.1.length)), some (.inl 2), some (.inl ((160 * (M.1.length - 1 - 1) : Nat) : Int)), some (.inl (((160 * (M.1.length - 1 - 1) : Nat) : Int) + (x1.2.1.length : Int))), some (.inl ((160 * (M.1.length - 1 - 0) : Nat) : Int)), some (.inl (((160 * (M.1.length - 1 - 0) : Nat) : Int) + (x0.2.1.length : Int))), none, none, none] [] _ _
  refine rx (xs_aload_n dm_Re_join_113 rfl) ?_
  refine rx (xs_iload dm_Re_join_114 rfl) ?_
  refine rx (xs_iload dm_Re_join_116 rfl) ?_
  refine rcV (as := [.inl ((160 * (M.1.length - 1 - 0) : Nat) : Int), .inl (((160 * (M.1.length - 1 - 0) : Nat) : Int) + (x0.2.1.length : Int))]) (rest := []) dm_Re_join_118 lc_Re_emitRow lm_Re_43 li_Re_emitRow (nr rfl rfl) rfl rfl rfl (nl rfl) (re_emitRow (frM_sg (frM_tr f7 (frM_emL (by omega))) wb0 (by omega)) rfl rfl (by omega) (by omega)) ?_
  rintro _ _ ⟨rfl, rfl⟩
  show rX E _ 121 [some (.inr (some E.1.length)), some (.inl 2), some (.inl ((160 * (M.1.length - 1 - 1) : Nat) : Int)), some (.inl (((160 * (M.1.length - 1 - 1) : Nat) : Int) + (x1.2.1.length : Int))), some (.inl ((160 * (M.1.length - 1 - 0) : Nat) : Int)), some (.inl (((160 * (M.1.length - 1 - 0) : Nat) : Int) + (x0.2.1.length : Int))), none, none, none] [] _ _
  rw [show emL (emL (emL q6 (12 :: 12 :: 11 :: 0 :: [1])) x1.2.1) x0.2.1 = emL q6 (eqn [1] x1.2.1 x0.2.1) by simp [eqn, emL]]
  have hel := eqn_len [1] x1.2.1 x0.2.1
  simp only [List.length_cons, List.length_nil] at hel
  have hst : st_ded M = fi M 2 (2, eqn [1] x1.2.1 x0.2.1, (brg x1.2.1 (brg x0.2.1 ([], false) x1.2.2) x0.2.2).1) (decide (40 < (eqn [1] x1.2.1 x0.2.1).length) || (brg x1.2.1 (brg x0.2.1 ([], false) x1.2.2) x0.2.2).2) := by rw [st_ded, kb0, kb1, kc0, kc1]
  generalize eqn [1] x1.2.1 x0.2.1 = l at hel hst ⊢
  show rX E _ 121 [some (.inr (some E.1.length)), some (.inl 2), some (.inl ((160 * (M.1.length - 1 - 1) : Nat) : Int)), some (.inl (((160 * (M.1.length - 1 - 1) : Nat) : Int) + (x1.2.1.length : Int))), some (.inl ((160 * (M.1.length - 1 - 0) : Nat) : Int)), some (.inl (((160 * (M.1.length - 1 - 0) : Nat) : Int) + (x0.2.1.length : Int))), none, none, none] [] _ _
  refine rx (xs_aload_n dm_Re_join_121 rfl) ?_
  refine rx (xs_iconst dm_Re_join_122) ?_
  refine rx (xs_sipush dm_Re_join_123 (by decide)) ?_
  refine rcV (as := [.inl 0, .inl 5201]) (rest := []) dm_Re_join_126 lc_Re_part lm_Re_66 li_Re_part (nr rfl rfl) rfl rfl rfl (nl rfl) (re_pa (s := 5201) (n := l.length) rfl (by rw [emL_out, e56]) (by omega) (by omega)) ?_
  rintro _ _ ⟨rfl, rfl⟩
  show rX E _ 129 [some (.inr (some E.1.length)), some (.inl 2), some (.inl ((160 * (M.1.length - 1 - 1) : Nat) : Int)), some (.inl (((160 * (M.1.length - 1 - 1) : Nat) : Int) + (x1.2.1.length : Int))), some (.inl ((160 * (M.1.length - 1 - 0) : Nat) : Int)), some (.inl (((160 * (M.1.length - 1 - 0) : Nat) : Int) + (x0.2.1.length : Int))), none, none, none] [] _ _
  refine rx (xs_aload_n dm_Re_join_129 rfl) ?_
  refine rx (xs_iconst dm_Re_join_130) ?_
  have key := pa_B (q := emL q6 l) (s := 5201) (l := l) (k := 2) (x := (brg x1.2.1 (brg x0.2.1 ([], false) x1.2.2) x0.2.2)) (emL_sg (by omega) e56) (by rw [emL_a (by omega) (by omega)]; exact k6) ⟨emL_h (by omega) hy6.1, by rw [emL_s (by omega)]; exact hy6.2⟩ (lok_emL lk6)
  have fp : frM q (paF (emL q6 l) 5201 l.length) := frM_tr f6 (frM_tr (frM_emL (by omega)) (frM_part (by decide)))
  refine rcV (as := [.inl 2]) (rest := []) dm_Re_join_131 lc_Re_done lm_Re_91 li_Re_done (nr rfl rfl) rfl rfl rfl (nl rfl) (re_done (n := 2) (x := (2, l, (brg x1.2.1 (brg x0.2.1 ([], false) x1.2.2) x0.2.2).1)) (b := (decide (40 < l.length) || (brg x1.2.1 (brg x0.2.1 ([], false) x1.2.2) x0.2.2).2)) hg (Rl_fr hg hR fp key.2.1) rfl (by omega) (by omega) key.2.2.2 (fun hh => key.1 (by simp only [Bool.or_eq_false_iff, decide_eq_false_iff_not] at hh; omega))) ?_
  rintro _ q9 ⟨rfl, hR9⟩
  show rX E _ 134 [some (.inr (some E.1.length)), some (.inl 2), some (.inl ((160 * (M.1.length - 1 - 1) : Nat) : Int)), some (.inl (((160 * (M.1.length - 1 - 1) : Nat) : Int) + (x1.2.1.length : Int))), some (.inl ((160 * (M.1.length - 1 - 0) : Nat) : Int)), some (.inl (((160 * (M.1.length - 1 - 0) : Nat) : Int) + (x0.2.1.length : Int))), none, none, none] [.inl (fi M 2 (2, l, (brg x1.2.1 (brg x0.2.1 ([], false) x1.2.2) x0.2.2).1) (decide (40 < l.length) || (brg x1.2.1 (brg x0.2.1 ([], false) x1.2.2) x0.2.2).2)).1] _ _
  rw [hst]
  exact rri dm_Re_join_134 rfl ⟨rfl, hR9⟩
set_option maxHeartbeats 4000000 in
set_option maxRecDepth 100000 in
theorem re_join0 {q : rS} {M : mS} (hg : gM M) (hR : Rl q M) (hk0 : kd M 0 = 2) (hk1 : kd M 1 = 2) : rM mm_Re_join [.inl 0] q (fun r q' => r = some (.inl (st_eqmp M).1) ∧ Rl q' (st_eqmp M).2) := by
  refine rm rfl (nl rfl) (fun E => ?_)
  have g6 := hg.2.2.2.2.2.1
  have g7 := hg.2.2.2.2.2.2.1
  have g8 := hg.2.2.2.2.2.2.2.1
  have g9 := hg.2.2.2.2.2.2.2.2.1
  have g10 := hg.2.2.2.2.2.2.2.2.2
  have r1 := hR.1
  have r4 : q 6 1 = (M.2.2.1.length : Int) := hR.2.2.2.1
  have r6 : q 6 2 = (M.2.2.2.1.length : Int) := hR.2.2.2.2.2.1
  have r8 : q 6 3 = (M.2.2.2.2.1.length : Int) := hR.2.2.2.2.2.2.2.1
  have r10 : q 6 4 = (M.2.2.2.2.2 : Int) := hR.2.2.2.2.2.2.2.2.2.1
  have hlk := hR.2.2.2.2.2.2.2.2.2.2
  have i0 := (kd_ir hg 0).1
  have i1 := (kd_ir hg 1).1
  obtain ⟨x0, hx0, ka0, kb0, kc0⟩ := kd_some (M := M) (i := 0) (by rw [hk0]; decide)
  obtain ⟨wa0, wb0, wc0⟩ := Rl_row hR hx0
  have hlt0 := (List.getElem?_eq_some_iff.mp hx0).1
  have gx0 := gM_top hg hx0
  obtain ⟨x1, hx1, ka1, kb1, kc1⟩ := kd_some (M := M) (i := 1) (by rw [hk1]; decide)
  obtain ⟨wa1, wb1, wc1⟩ := Rl_row hR hx1
  have hlt1 := (List.getElem?_eq_some_iff.mp hx1).1
  have gx1 := gM_top hg hx1
  obtain ⟨ht0, hl0, hn0, hs0, hh0⟩ := gO_2 gx0 (ka0.symm.trans hk0)
  obtain ⟨ht1, hl1, hn1, hs1, hh1⟩ := gO_2 gx1 (ka1.symm.trans hk1)
  show rX E _ 0 [some (.inr (some E.1.length)), some (.inl 0), none, none, none, none, none, none, none] [] _ _
  refine rx (xs_aload_n dm_Re_join_0 rfl) ?_
  refine rx (xs_iconst dm_Re_join_1) ?_
  refine rcV (as := [.inl 0]) (rest := []) dm_Re_join_2 lc_Re_top lm_Re_85 li_Re_top (nr rfl rfl) rfl rfl rfl (nl rfl) (re_top' (i := 0) hg hR rfl (by decide)) ?_
  rintro _ q1 ⟨rfl, hq1⟩
  have hq1 := hq1.symm
  subst hq1
  show rX E _ 5 [some (.inr (some E.1.length)), some (.inl 0), none, none, none, none, none, none, none] [.inl (kd M 0)] _ _
  refine rx (xs_iconst dm_Re_join_5) ?_
  refine rx (xs_icmp_ne_f (tgt := 18) dm_Re_join_6 rfl i0 (by unfold ir; omega) hk0) ?_
  refine rx (xs_aload_n dm_Re_join_9 rfl) ?_
  refine rx (xs_iconst dm_Re_join_10) ?_
  refine rcV (as := [.inl 1]) (rest := []) dm_Re_join_11 lc_Re_top lm_Re_85 li_Re_top (nr rfl rfl) rfl rfl rfl (nl rfl) (re_top' (i := 1) hg hR rfl (by decide)) ?_
  rintro _ q1 ⟨rfl, hq1⟩
  have hq1 := hq1.symm
  subst hq1
  show rX E _ 14 [some (.inr (some E.1.length)), some (.inl 0), none, none, none, none, none, none, none] [.inl (kd M 1)] _ _
  refine rx (xs_iconst dm_Re_join_14) ?_
  refine rx (xs_icmp_eq_t (tgt := 20) dm_Re_join_15 rfl i1 (by unfold ir; omega) hk1) ?_
  refine rx (xs_iload_n dm_Re_join_20 rfl) ?_
  refine rx (xs_if_lt_f (tgt := 29) dm_Re_join_21 rfl (by unfold ir; omega) (by decide)) ?_
  refine rx (xs_iload_n dm_Re_join_24 rfl) ?_
  refine rx (xs_iconst dm_Re_join_25) ?_
  refine rx (xs_icmp_le_t (tgt := 31) dm_Re_join_26 rfl (by unfold ir; omega) (by unfold ir; omega) (by decide)) ?_
  refine rx (xs_aload_n dm_Re_join_31 rfl) ?_
  refine rcV (as := []) (rest := []) dm_Re_join_32 lc_Re_begin lm_Re_88 li_Re_begin (nr rfl rfl) rfl rfl rfl (nl rfl) (re_begin) ?_
  rintro _ _ ⟨rfl, rfl⟩
  show rX E _ 35 [some (.inr (some E.1.length)), some (.inl 0), none, none, none, none, none, none, none] [] _ _
  have w5 := bg_5 q
  have fg := frM_bg q
  have lkg := lok_bg hlk
  have R0 := Rl_fr hg hR fg lkg
  have z0 : (bg q) 6 0 = (M.1.length : Int) := R0.1
  have k28 := bg_2 q
  have h28 := hy0 (bg_3 q)
  have g28 := bg_6 q
  have sw0 := frM_sg fg wb0 (by omega)
  have sw1 := frM_sg fg wb1 (by omega)
  generalize bg q = qg at w5 fg lkg R0 z0 k28 h28 g28 sw0 sw1 ⊢
  show rX E _ 35 [some (.inr (some E.1.length)), some (.inl 0), none, none, none, none, none, none, none] [] _ _
  refine rx (xs_aload_n dm_Re_join_35 rfl) ?_
  refine rx (xs_iconst dm_Re_join_36) ?_
  refine rcV (as := [.inl 1]) (rest := []) dm_Re_join_37 lc_Re_rowOf lm_Re_94 li_Re_rowOf (nr rfl rfl) rfl rfl rfl (nl rfl) (re_rowOf' R0 rfl hx1) ?_
  rintro _ q1 ⟨rfl, hq1⟩
  have hq1 := hq1.symm
  subst hq1
  show rX E _ 40 [some (.inr (some E.1.length)), some (.inl 0), none, none, none, none, none, none, none] [.inl ((160 * (M.1.length - 1 - 1) : Nat) : Int)] _ _
  refine rx (xs_istore_n dm_Re_join_40 (by decide)) ?_
  show rX E _ 41 [some (.inr (some E.1.length)), some (.inl 0), some (.inl ((160 * (M.1.length - 1 - 1) : Nat) : Int)), none, none, none, none, none, none] [] _ _
  refine rx (xs_aload_n dm_Re_join_41 rfl) ?_
  refine rx (xs_iconst dm_Re_join_42) ?_
  refine rcV (as := [.inl 1]) (rest := []) dm_Re_join_43 lc_Re_rowEnd lm_Re_97 li_Re_rowEnd (nr rfl rfl) rfl rfl rfl (nl rfl) (re_rowEnd' hg R0 rfl hx1) ?_
  rintro _ q1 ⟨rfl, hq1⟩
  have hq1 := hq1.symm
  subst hq1
  show rX E _ 46 [some (.inr (some E.1.length)), some (.inl 0), some (.inl ((160 * (M.1.length - 1 - 1) : Nat) : Int)), none, none, none, none, none, none] [.inl (((160 * (M.1.length - 1 - 1) : Nat) : Int) + (x1.2.1.length : Int))] _ _
  refine rx (xs_istore_n dm_Re_join_46 (by decide)) ?_
  show rX E _ 47 [some (.inr (some E.1.length)), some (.inl 0), some (.inl ((160 * (M.1.length - 1 - 1) : Nat) : Int)), some (.inl (((160 * (M.1.length - 1 - 1) : Nat) : Int) + (x1.2.1.length : Int))), none, none, none, none, none] [] _ _
  refine rx (xs_aload_n dm_Re_join_47 rfl) ?_
  refine rx (xs_iconst dm_Re_join_48) ?_
  refine rcV (as := [.inl 0]) (rest := []) dm_Re_join_49 lc_Re_rowOf lm_Re_94 li_Re_rowOf (nr rfl rfl) rfl rfl rfl (nl rfl) (re_rowOf' R0 rfl hx0) ?_
  rintro _ q1 ⟨rfl, hq1⟩
  have hq1 := hq1.symm
  subst hq1
  show rX E _ 52 [some (.inr (some E.1.length)), some (.inl 0), some (.inl ((160 * (M.1.length - 1 - 1) : Nat) : Int)), some (.inl (((160 * (M.1.length - 1 - 1) : Nat) : Int) + (x1.2.1.length : Int))), none, none, none, none, none] [.inl ((160 * (M.1.length - 1 - 0) : Nat) : Int)] _ _
  refine rx (xs_istore dm_Re_join_52 (by decide)) ?_
  show rX E _ 54 [some (.inr (some E.1.length)), some (.inl 0), some (.inl ((160 * (M.1.length - 1 - 1) : Nat) : Int)), some (.inl (((160 * (M.1.length - 1 - 1) : Nat) : Int) + (x1.2.1.length : Int))), some (.inl ((160 * (M.1.length - 1 - 0) : Nat) : Int)), none, none, none, none] [] _ _
  refine rx (xs_aload_n dm_Re_join_54 rfl) ?_
  refine rx (xs_iconst dm_Re_join_55) ?_
  refine rcV (as := [.inl 0]) (rest := []) dm_Re_join_56 lc_Re_rowEnd lm_Re_97 li_Re_rowEnd (nr rfl rfl) rfl rfl rfl (nl rfl) (re_rowEnd' hg R0 rfl hx0) ?_
  rintro _ q1 ⟨rfl, hq1⟩
  have hq1 := hq1.symm
  subst hq1
  show rX E _ 59 [some (.inr (some E.1.length)), some (.inl 0), some (.inl ((160 * (M.1.length - 1 - 1) : Nat) : Int)), some (.inl (((160 * (M.1.length - 1 - 1) : Nat) : Int) + (x1.2.1.length : Int))), some (.inl ((160 * (M.1.length - 1 - 0) : Nat) : Int)), none, none, none, none] [.inl (((160 * (M.1.length - 1 - 0) : Nat) : Int) + (x0.2.1.length : Int))] _ _
  refine rx (xs_istore dm_Re_join_59 (by decide)) ?_
  show rX E _ 61 [some (.inr (some E.1.length)), some (.inl 0), some (.inl ((160 * (M.1.length - 1 - 1) : Nat) : Int)), some (.inl (((160 * (M.1.length - 1 - 1) : Nat) : Int) + (x1.2.1.length : Int))), some (.inl ((160 * (M.1.length - 1 - 0) : Nat) : Int)), some (.inl (((160 * (M.1.length - 1 - 0) : Nat) : Int) + (x0.2.1.length : Int))), none, none, none] [] _ _
  refine rx (xs_iload_n dm_Re_join_61 rfl) ?_
  refine rx (xs_iconst dm_Re_join_62) ?_
  refine rx (xs_icmp_ne_t (tgt := 135) dm_Re_join_63 rfl (by unfold ir; omega) (by unfold ir; omega) (by decide)) ?_
  refine rx (xs_aload_n dm_Re_join_135 rfl) ?_
  refine rx (xs_iload_n dm_Re_join_136 rfl) ?_
  by_cases he1 : isE x1.2.1
  · obtain ⟨-, a1, l1, r1, hq1⟩ := eqP_of ht1 he1
    have hqx1 := eqx_of hq1
    obtain ⟨eq1, ta1, tl1, tr1⟩ := hq1
    have sE1 : sg qg (160 * (M.1.length - 1 - 1)) ([12, 12, 11, 0] ++ (a1 ++ (l1 ++ r1))) := by rw [show [12, 12, 11, 0] ++ (a1 ++ (l1 ++ r1)) = x1.2.1 by rw [eq1]; simp [eqn]]; exact sw1
    have u1 := (sg_app.mp sE1).2
    have ua1 := (sg_app.mp u1).1
    have v1 := (sg_app.mp u1).2
    have ul1 := (sg_app.mp v1).1
    have ur1 := (sg_app.mp v1).2
    simp only [List.length_cons, List.length_nil] at u1 ua1 v1 ul1 ur1
    have len1 : x1.2.1.length = 4 + a1.length + l1.length + r1.length := by rw [eq1, eqn_len]
    refine rcV (as := [.inl ((160 * (M.1.length - 1 - 1) : Nat) : Int)]) (rest := []) dm_Re_join_137 lc_Re_isEquation lm_Re_162 li_Re_isEquation (nr rfl rfl) rfl rfl rfl (nl rfl) (re_isEq1 (p := 160 * (M.1.length - 1 - 1)) (r := a1 ++ (l1 ++ r1)) sE1 rfl (by omega)) ?_
    rintro _ q1 ⟨rfl, hq1⟩
    have hq1 := hq1.symm
    subst hq1
    show rX E _ 140 [some (.inr (some E.1.length)), some (.inl 0), some (.inl ((160 * (M.1.length - 1 - 1) : Nat) : Int)), some (.inl (((160 * (M.1.length - 1 - 1) : Nat) : Int) + (x1.2.1.length : Int))), some (.inl ((160 * (M.1.length - 1 - 0) : Nat) : Int)), some (.inl (((160 * (M.1.length - 1 - 0) : Nat) : Int) + (x0.2.1.length : Int))), none, none, none] [.inl 1] _ _
    refine rx (xs_if_eq_f (tgt := 157) dm_Re_join_140 rfl (by unfold ir; omega) (by decide)) ?_
    refine rx (xs_iload_n dm_Re_join_143 rfl) ?_
    refine rx (xs_iconst dm_Re_join_144) ?_
    refine rx (xs_icmp_ne_t (tgt := 159) dm_Re_join_145 rfl (by unfold ir; omega) (by unfold ir; omega) (by decide)) ?_
    refine rx (xs_aload_n dm_Re_join_159 rfl) ?_
    refine rx (xs_iload_n dm_Re_join_160 rfl) ?_
    refine rcV (as := [.inl ((160 * (M.1.length - 1 - 1) : Nat) : Int)]) (rest := []) dm_Re_join_161 lc_Re_left lm_Re_165 li_Re_left (nr rfl rfl) rfl rfl rfl (nl rfl) (re_left (p := 160 * (M.1.length - 1 - 1)) (a := a1) ua1 ta1 rfl (by omega)) ?_
    rintro _ q1 ⟨rfl, hq1⟩
    have hq1 := hq1.symm
    subst hq1
    show rX E _ 164 [some (.inr (some E.1.length)), some (.inl 0), some (.inl ((160 * (M.1.length - 1 - 1) : Nat) : Int)), some (.inl (((160 * (M.1.length - 1 - 1) : Nat) : Int) + (x1.2.1.length : Int))), some (.inl ((160 * (M.1.length - 1 - 0) : Nat) : Int)), some (.inl (((160 * (M.1.length - 1 - 0) : Nat) : Int) + (x0.2.1.length : Int))), none, none, none] [.inl (((160 * (M.1.length - 1 - 1) : Nat) : Int) + 4 + (a1.length : Int))] _ _
    refine rx (xs_istore dm_Re_join_164 (by decide)) ?_
    show rX E _ 166 [some (.inr (some E.1.length)), some (.inl 0), some (.inl ((160 * (M.1.length - 1 - 1) : Nat) : Int)), some (.inl (((160 * (M.1.length - 1 - 1) : Nat) : Int) + (x1.2.1.length : Int))), some (.inl ((160 * (M.1.length - 1 - 0) : Nat) : Int)), some (.inl (((160 * (M.1.length - 1 - 0) : Nat) : Int) + (x0.2.1.length : Int))), some (.inl (((160 * (M.1.length - 1 - 1) : Nat) : Int) + 4 + (a1.length : Int))), none, none] [] _ _
    refine rx (xs_aload_n dm_Re_join_166 rfl) ?_
    refine rx (xs_iload dm_Re_join_167 rfl) ?_
    refine rcV (as := [.inl (((160 * (M.1.length - 1 - 1) : Nat) : Int) + 4 + (a1.length : Int))]) (rest := []) dm_Re_join_169 lc_Re_skipTerm lm_Re_40 li_Re_skipTerm (nr rfl rfl) rfl rfl rfl (nl rfl) (re_skipTerm (p := 160 * (M.1.length - 1 - 1) + (0 + 1 + 1 + 1 + 1) + a1.length) ul1 tl1 (by omega) (by omega) (by simp)) ?_
    rintro _ q1 ⟨rfl, hq1⟩
    have hq1 := hq1.symm
    subst hq1
    show rX E _ 172 [some (.inr (some E.1.length)), some (.inl 0), some (.inl ((160 * (M.1.length - 1 - 1) : Nat) : Int)), some (.inl (((160 * (M.1.length - 1 - 1) : Nat) : Int) + (x1.2.1.length : Int))), some (.inl ((160 * (M.1.length - 1 - 0) : Nat) : Int)), some (.inl (((160 * (M.1.length - 1 - 0) : Nat) : Int) + (x0.2.1.length : Int))), some (.inl (((160 * (M.1.length - 1 - 1) : Nat) : Int) + 4 + (a1.length : Int))), none, none] [.inl (((160 * (M.1.length - 1 - 1) + (0 + 1 + 1 + 1 + 1) + a1.length : Nat) : Int) + (l1.length : Int))] _ _
    refine rx (xs_istore dm_Re_join_172 (by decide)) ?_
    show rX E _ 174 [some (.inr (some E.1.length)), some (.inl 0), some (.inl ((160 * (M.1.length - 1 - 1) : Nat) : Int)), some (.inl (((160 * (M.1.length - 1 - 1) : Nat) : Int) + (x1.2.1.length : Int))), some (.inl ((160 * (M.1.length - 1 - 0) : Nat) : Int)), some (.inl (((160 * (M.1.length - 1 - 0) : Nat) : Int) + (x0.2.1.length : Int))), some (.inl (((160 * (M.1.length - 1 - 1) : Nat) : Int) + 4 + (a1.length : Int))), some (.inl (((160 * (M.1.length - 1 - 1) + (0 + 1 + 1 + 1 + 1) + a1.length : Nat) : Int) + (l1.length : Int))), none] [] _ _
    refine rx (xs_iload_n dm_Re_join_174 rfl) ?_
    refine rx (xs_if_ne_f (tgt := 195) dm_Re_join_175 rfl (by unfold ir; omega) (by decide)) ?_
    refine rx (xs_aload_n dm_Re_join_178 rfl) ?_
    refine rx (xs_iload dm_Re_join_179 rfl) ?_
    refine rx (xs_iload dm_Re_join_181 rfl) ?_
    refine rx (xs_iload dm_Re_join_183 rfl) ?_
    refine rx (xs_iload dm_Re_join_185 rfl) ?_
    refine rcV (as := [.inl (((160 * (M.1.length - 1 - 1) : Nat) : Int) + 4 + (a1.length : Int)), .inl (((160 * (M.1.length - 1 - 1) + (0 + 1 + 1 + 1 + 1) + a1.length : Nat) : Int) + (l1.length : Int)), .inl ((160 * (M.1.length - 1 - 0) : Nat) : Int), .inl (((160 * (M.1.length - 1 - 0) : Nat) : Int) + (x0.2.1.length : Int))]) (rest := []) dm_Re_join_187 lc_Re_sameRow lm_Re_69 li_Re_sameRow (nr rfl rfl) rfl rfl rfl (nl rfl) (re_sameRow (p := 160 * (M.1.length - 1 - 1) + (0 + 1 + 1 + 1 + 1) + a1.length) (p2 := 160 * (M.1.length - 1 - 0)) ul1 sw0 (by omega) (by omega) rfl rfl (by omega) (by omega) (isTm_ir tl1 (by simp; omega)) (gO_ir gx0).1) ?_
    rintro _ q1 ⟨rfl, hq1⟩
    have hq1 := hq1.symm
    subst hq1
    show rX E _ 190 [some (.inr (some E.1.length)), some (.inl 0), some (.inl ((160 * (M.1.length - 1 - 1) : Nat) : Int)), some (.inl (((160 * (M.1.length - 1 - 1) : Nat) : Int) + (x1.2.1.length : Int))), some (.inl ((160 * (M.1.length - 1 - 0) : Nat) : Int)), some (.inl (((160 * (M.1.length - 1 - 0) : Nat) : Int) + (x0.2.1.length : Int))), some (.inl (((160 * (M.1.length - 1 - 1) : Nat) : Int) + 4 + (a1.length : Int))), some (.inl (((160 * (M.1.length - 1 - 1) + (0 + 1 + 1 + 1 + 1) + a1.length : Nat) : Int) + (l1.length : Int))), none] [.inl (if l1 = x0.2.1 then 1 else 0)] _ _
    by_cases hlx : l1 = x0.2.1
    · rw [if_pos hlx]
      have hst : st_eqmp M = fi M 2 (2, r1, (brg [] (brg [] ([], decide (40 < r1.length)) x1.2.2) x0.2.2).1) (brg [] (brg [] ([], decide (40 < r1.length)) x1.2.2) x0.2.2).2 := by rw [st_eqmp, kb0, kb1, kc0, kc1, hqx1, ifc_t ⟨he1, hlx⟩]
      rw [hst]
      refine rx (xs_if_ne_t (tgt := 195) dm_Re_join_190 rfl (by unfold ir; omega) (by decide)) ?_
      refine rx (xs_iload_n dm_Re_join_195 rfl) ?_
      refine rx (xs_iconst dm_Re_join_196) ?_
      refine rx (xs_icmp_ne_t (tgt := 217) dm_Re_join_197 rfl (by unfold ir; omega) (by unfold ir; omega) (by decide)) ?_
      refine rx (xs_aload_n dm_Re_join_217 rfl) ?_
      refine rx (rg (v := .inl (qg 6 5)) dm_Re_join_218 lf_Re_28 rfl) ?_
      refine rx (xs_istore dm_Re_join_221 (by decide)) ?_
      show rX E _ 223 [some (.inr (some E.1.length)), some (.inl 0), some (.inl ((160 * (M.1.length - 1 - 1) : Nat) : Int)), some (.inl (((160 * (M.1.length - 1 - 1) : Nat) : Int) + (x1.2.1.length : Int))), some (.inl ((160 * (M.1.length - 1 - 0) : Nat) : Int)), some (.inl (((160 * (M.1.length - 1 - 0) : Nat) : Int) + (x0.2.1.length : Int))), some (.inl (((160 * (M.1.length - 1 - 1) : Nat) : Int) + 4 + (a1.length : Int))), some (.inl (((160 * (M.1.length - 1 - 1) + (0 + 1 + 1 + 1 + 1) + a1.length : Nat) : Int) + (l1.length : Int))), some (.inl (qg 6 5))] [] _ _
      refine rx (xs_iload_n dm_Re_join_223 rfl) ?_
      refine rx (xs_if_ne_f (tgt := 237) dm_Re_join_224 rfl (by unfold ir; omega) (by decide)) ?_
      refine rx (xs_aload_n dm_Re_join_227 rfl) ?_
      refine rx (xs_iload dm_Re_join_228 rfl) ?_
      refine rx (xs_iload_n dm_Re_join_230 rfl) ?_
      refine rcV (as := [.inl (((160 * (M.1.length - 1 - 1) + (0 + 1 + 1 + 1 + 1) + a1.length : Nat) : Int) + (l1.length : Int)), .inl (((160 * (M.1.length - 1 - 1) : Nat) : Int) + (x1.2.1.length : Int))]) (rest := []) dm_Re_join_231 lc_Re_emitRow lm_Re_43 li_Re_emitRow (nr rfl rfl) rfl rfl rfl (nl rfl) (re_emitRow (p := 160 * (M.1.length - 1 - 1) + (0 + 1 + 1 + 1 + 1) + a1.length + l1.length) ur1 (by omega) (by omega) (by omega) (by omega)) ?_
      rintro _ _ ⟨rfl, rfl⟩
      show rX E _ 234 [some (.inr (some E.1.length)), some (.inl 0), some (.inl ((160 * (M.1.length - 1 - 1) : Nat) : Int)), some (.inl (((160 * (M.1.length - 1 - 1) : Nat) : Int) + (x1.2.1.length : Int))), some (.inl ((160 * (M.1.length - 1 - 0) : Nat) : Int)), some (.inl (((160 * (M.1.length - 1 - 0) : Nat) : Int) + (x0.2.1.length : Int))), some (.inl (((160 * (M.1.length - 1 - 1) : Nat) : Int) + 4 + (a1.length : Int))), some (.inl (((160 * (M.1.length - 1 - 1) + (0 + 1 + 1 + 1 + 1) + a1.length : Nat) : Int) + (l1.length : Int))), some (.inl (qg 6 5))] [] _ _
      refine rx (xs_goto (tgt := 254) dm_Re_join_234 rfl) ?_
      exact re_join_t E hg hR hx0 hx1 (s := 5200) w5 w5 (by omega) (by omega) (by omega) fg k28 h28 g28 lkg
    · rw [if_neg hlx]
      refine rx (xs_if_ne_f (tgt := 195) dm_Re_join_190 rfl (by unfold ir; omega) (by decide)) ?_
      have hst : st_eqmp M = (2, M) := by
        rw [st_eqmp, ifc_f]
        rw [kb0, kb1, hqx1]; exact fun h => hlx h.2
      refine rx (xs_iconst dm_Re_join_193) ?_
      exact rri dm_Re_join_194 rfl ⟨vi (by rw [hst]), by rw [hst]; exact R0⟩
  · refine rcV (as := [.inl ((160 * (M.1.length - 1 - 1) : Nat) : Int)]) (rest := []) dm_Re_join_137 lc_Re_isEquation lm_Re_162 li_Re_isEquation (nr rfl rfl) rfl rfl rfl (nl rfl) (re_isEq0 sw1 ht1 he1 rfl (by omega) (by simp; omega)) ?_
    rintro _ q1 ⟨rfl, hq1⟩
    have hq1 := hq1.symm
    subst hq1
    show rX E _ 140 [some (.inr (some E.1.length)), some (.inl 0), some (.inl ((160 * (M.1.length - 1 - 1) : Nat) : Int)), some (.inl (((160 * (M.1.length - 1 - 1) : Nat) : Int) + (x1.2.1.length : Int))), some (.inl ((160 * (M.1.length - 1 - 0) : Nat) : Int)), some (.inl (((160 * (M.1.length - 1 - 0) : Nat) : Int) + (x0.2.1.length : Int))), none, none, none] [.inl 0] _ _
    refine rx (xs_if_eq_t (tgt := 157) dm_Re_join_140 rfl (by unfold ir; omega) (by decide)) ?_
    have hst : st_eqmp M = (2, M) := by
      rw [st_eqmp, ifc_f]
      rw [kb1]; exact fun h => he1 h.1
    refine rx (xs_iconst dm_Re_join_157) ?_
    exact rri dm_Re_join_158 rfl ⟨vi (by rw [hst]), by rw [hst]; exact R0⟩
set_option maxHeartbeats 4000000 in
set_option maxRecDepth 100000 in
theorem re_join1 {q : rS} {M : mS} (hg : gM M) (hR : Rl q M) (hk0 : kd M 0 = 2) (hk1 : kd M 1 = 2) : rM mm_Re_join [.inl 1] q (fun r q' => r = some (.inl (st_cong M).1) ∧ Rl q' (st_cong M).2) := by
  refine rm rfl (nl rfl) (fun E => ?_)
  have g6 := hg.2.2.2.2.2.1
  have g7 := hg.2.2.2.2.2.2.1
  have g8 := hg.2.2.2.2.2.2.2.1
  have g9 := hg.2.2.2.2.2.2.2.2.1
  have g10 := hg.2.2.2.2.2.2.2.2.2
  have r1 := hR.1
  have r4 : q 6 1 = (M.2.2.1.length : Int) := hR.2.2.2.1
  have r6 : q 6 2 = (M.2.2.2.1.length : Int) := hR.2.2.2.2.2.1
  have r8 : q 6 3 = (M.2.2.2.2.1.length : Int) := hR.2.2.2.2.2.2.2.1
  have r10 : q 6 4 = (M.2.2.2.2.2 : Int) := hR.2.2.2.2.2.2.2.2.2.1
  have hlk := hR.2.2.2.2.2.2.2.2.2.2
  have i0 := (kd_ir hg 0).1
  have i1 := (kd_ir hg 1).1
  obtain ⟨x0, hx0, ka0, kb0, kc0⟩ := kd_some (M := M) (i := 0) (by rw [hk0]; decide)
  obtain ⟨wa0, wb0, wc0⟩ := Rl_row hR hx0
  have hlt0 := (List.getElem?_eq_some_iff.mp hx0).1
  have gx0 := gM_top hg hx0
  obtain ⟨x1, hx1, ka1, kb1, kc1⟩ := kd_some (M := M) (i := 1) (by rw [hk1]; decide)
  obtain ⟨wa1, wb1, wc1⟩ := Rl_row hR hx1
  have hlt1 := (List.getElem?_eq_some_iff.mp hx1).1
  have gx1 := gM_top hg hx1
  obtain ⟨ht0, hl0, hn0, hs0, hh0⟩ := gO_2 gx0 (ka0.symm.trans hk0)
  obtain ⟨ht1, hl1, hn1, hs1, hh1⟩ := gO_2 gx1 (ka1.symm.trans hk1)
  show rX E _ 0 [some (.inr (some E.1.length)), some (.inl 1), none, none, none, none, none, none, none] [] _ _
  refine rx (xs_aload_n dm_Re_join_0 rfl) ?_
  refine rx (xs_iconst dm_Re_join_1) ?_
  refine rcV (as := [.inl 0]) (rest := []) dm_Re_join_2 lc_Re_top lm_Re_85 li_Re_top (nr rfl rfl) rfl rfl rfl (nl rfl) (re_top' (i := 0) hg hR rfl (by decide)) ?_
  rintro _ q1 ⟨rfl, hq1⟩
  have hq1 := hq1.symm
  subst hq1
  show rX E _ 5 [some (.inr (some E.1.length)), some (.inl 1), none, none, none, none, none, none, none] [.inl (kd M 0)] _ _
  refine rx (xs_iconst dm_Re_join_5) ?_
  refine rx (xs_icmp_ne_f (tgt := 18) dm_Re_join_6 rfl i0 (by unfold ir; omega) hk0) ?_
  refine rx (xs_aload_n dm_Re_join_9 rfl) ?_
  refine rx (xs_iconst dm_Re_join_10) ?_
  refine rcV (as := [.inl 1]) (rest := []) dm_Re_join_11 lc_Re_top lm_Re_85 li_Re_top (nr rfl rfl) rfl rfl rfl (nl rfl) (re_top' (i := 1) hg hR rfl (by decide)) ?_
  rintro _ q1 ⟨rfl, hq1⟩
  have hq1 := hq1.symm
  subst hq1
  show rX E _ 14 [some (.inr (some E.1.length)), some (.inl 1), none, none, none, none, none, none, none] [.inl (kd M 1)] _ _
  refine rx (xs_iconst dm_Re_join_14) ?_
  refine rx (xs_icmp_eq_t (tgt := 20) dm_Re_join_15 rfl i1 (by unfold ir; omega) hk1) ?_
  refine rx (xs_iload_n dm_Re_join_20 rfl) ?_
  refine rx (xs_if_lt_f (tgt := 29) dm_Re_join_21 rfl (by unfold ir; omega) (by decide)) ?_
  refine rx (xs_iload_n dm_Re_join_24 rfl) ?_
  refine rx (xs_iconst dm_Re_join_25) ?_
  refine rx (xs_icmp_le_t (tgt := 31) dm_Re_join_26 rfl (by unfold ir; omega) (by unfold ir; omega) (by decide)) ?_
  refine rx (xs_aload_n dm_Re_join_31 rfl) ?_
  refine rcV (as := []) (rest := []) dm_Re_join_32 lc_Re_begin lm_Re_88 li_Re_begin (nr rfl rfl) rfl rfl rfl (nl rfl) (re_begin) ?_
  rintro _ _ ⟨rfl, rfl⟩
  show rX E _ 35 [some (.inr (some E.1.length)), some (.inl 1), none, none, none, none, none, none, none] [] _ _
  have w5 := bg_5 q
  have fg := frM_bg q
  have lkg := lok_bg hlk
  have R0 := Rl_fr hg hR fg lkg
  have z0 : (bg q) 6 0 = (M.1.length : Int) := R0.1
  have k28 := bg_2 q
  have h28 := hy0 (bg_3 q)
  have g28 := bg_6 q
  have sw0 := frM_sg fg wb0 (by omega)
  have sw1 := frM_sg fg wb1 (by omega)
  generalize bg q = qg at w5 fg lkg R0 z0 k28 h28 g28 sw0 sw1 ⊢
  show rX E _ 35 [some (.inr (some E.1.length)), some (.inl 1), none, none, none, none, none, none, none] [] _ _
  refine rx (xs_aload_n dm_Re_join_35 rfl) ?_
  refine rx (xs_iconst dm_Re_join_36) ?_
  refine rcV (as := [.inl 1]) (rest := []) dm_Re_join_37 lc_Re_rowOf lm_Re_94 li_Re_rowOf (nr rfl rfl) rfl rfl rfl (nl rfl) (re_rowOf' R0 rfl hx1) ?_
  rintro _ q1 ⟨rfl, hq1⟩
  have hq1 := hq1.symm
  subst hq1
  show rX E _ 40 [some (.inr (some E.1.length)), some (.inl 1), none, none, none, none, none, none, none] [.inl ((160 * (M.1.length - 1 - 1) : Nat) : Int)] _ _
  refine rx (xs_istore_n dm_Re_join_40 (by decide)) ?_
  show rX E _ 41 [some (.inr (some E.1.length)), some (.inl 1), some (.inl ((160 * (M.1.length - 1 - 1) : Nat) : Int)), none, none, none, none, none, none] [] _ _
  refine rx (xs_aload_n dm_Re_join_41 rfl) ?_
  refine rx (xs_iconst dm_Re_join_42) ?_
  refine rcV (as := [.inl 1]) (rest := []) dm_Re_join_43 lc_Re_rowEnd lm_Re_97 li_Re_rowEnd (nr rfl rfl) rfl rfl rfl (nl rfl) (re_rowEnd' hg R0 rfl hx1) ?_
  rintro _ q1 ⟨rfl, hq1⟩
  have hq1 := hq1.symm
  subst hq1
  show rX E _ 46 [some (.inr (some E.1.length)), some (.inl 1), some (.inl ((160 * (M.1.length - 1 - 1) : Nat) : Int)), none, none, none, none, none, none] [.inl (((160 * (M.1.length - 1 - 1) : Nat) : Int) + (x1.2.1.length : Int))] _ _
  refine rx (xs_istore_n dm_Re_join_46 (by decide)) ?_
  show rX E _ 47 [some (.inr (some E.1.length)), some (.inl 1), some (.inl ((160 * (M.1.length - 1 - 1) : Nat) : Int)), some (.inl (((160 * (M.1.length - 1 - 1) : Nat) : Int) + (x1.2.1.length : Int))), none, none, none, none, none] [] _ _
  refine rx (xs_aload_n dm_Re_join_47 rfl) ?_
  refine rx (xs_iconst dm_Re_join_48) ?_
  refine rcV (as := [.inl 0]) (rest := []) dm_Re_join_49 lc_Re_rowOf lm_Re_94 li_Re_rowOf (nr rfl rfl) rfl rfl rfl (nl rfl) (re_rowOf' R0 rfl hx0) ?_
  rintro _ q1 ⟨rfl, hq1⟩
  have hq1 := hq1.symm
  subst hq1
  show rX E _ 52 [some (.inr (some E.1.length)), some (.inl 1), some (.inl ((160 * (M.1.length - 1 - 1) : Nat) : Int)), some (.inl (((160 * (M.1.length - 1 - 1) : Nat) : Int) + (x1.2.1.length : Int))), none, none, none, none, none] [.inl ((160 * (M.1.length - 1 - 0) : Nat) : Int)] _ _
  refine rx (xs_istore dm_Re_join_52 (by decide)) ?_
  show rX E _ 54 [some (.inr (some E.1.length)), some (.inl 1), some (.inl ((160 * (M.1.length - 1 - 1) : Nat) : Int)), some (.inl (((160 * (M.1.length - 1 - 1) : Nat) : Int) + (x1.2.1.length : Int))), some (.inl ((160 * (M.1.length - 1 - 0) : Nat) : Int)), none, none, none, none] [] _ _
  refine rx (xs_aload_n dm_Re_join_54 rfl) ?_
  refine rx (xs_iconst dm_Re_join_55) ?_
  refine rcV (as := [.inl 0]) (rest := []) dm_Re_join_56 lc_Re_rowEnd lm_Re_97 li_Re_rowEnd (nr rfl rfl) rfl rfl rfl (nl rfl) (re_rowEnd' hg R0 rfl hx0) ?_
  rintro _ q1 ⟨rfl, hq1⟩
  have hq1 := hq1.symm
  subst hq1
  show rX E _ 59 [some (.inr (some E.1.length)), some (.inl 1), some (.inl ((160 * (M.1.length - 1 - 1) : Nat) : Int)), some (.inl (((160 * (M.1.length - 1 - 1) : Nat) : Int) + (x1.2.1.length : Int))), some (.inl ((160 * (M.1.length - 1 - 0) : Nat) : Int)), none, none, none, none] [.inl (((160 * (M.1.length - 1 - 0) : Nat) : Int) + (x0.2.1.length : Int))] _ _
  refine rx (xs_istore dm_Re_join_59 (by decide)) ?_
  show rX E _ 61 [some (.inr (some E.1.length)), some (.inl 1), some (.inl ((160 * (M.1.length - 1 - 1) : Nat) : Int)), some (.inl (((160 * (M.1.length - 1 - 1) : Nat) : Int) + (x1.2.1.length : Int))), some (.inl ((160 * (M.1.length - 1 - 0) : Nat) : Int)), some (.inl (((160 * (M.1.length - 1 - 0) : Nat) : Int) + (x0.2.1.length : Int))), none, none, none] [] _ _
  refine rx (xs_iload_n dm_Re_join_61 rfl) ?_
  refine rx (xs_iconst dm_Re_join_62) ?_
  refine rx (xs_icmp_ne_t (tgt := 135) dm_Re_join_63 rfl (by unfold ir; omega) (by unfold ir; omega) (by decide)) ?_
  refine rx (xs_aload_n dm_Re_join_135 rfl) ?_
  refine rx (xs_iload_n dm_Re_join_136 rfl) ?_
  by_cases he1 : isE x1.2.1
  · obtain ⟨-, a1, l1, r1, hq1⟩ := eqP_of ht1 he1
    have hqx1 := eqx_of hq1
    obtain ⟨eq1, ta1, tl1, tr1⟩ := hq1
    have sE1 : sg qg (160 * (M.1.length - 1 - 1)) ([12, 12, 11, 0] ++ (a1 ++ (l1 ++ r1))) := by rw [show [12, 12, 11, 0] ++ (a1 ++ (l1 ++ r1)) = x1.2.1 by rw [eq1]; simp [eqn]]; exact sw1
    have u1 := (sg_app.mp sE1).2
    have ua1 := (sg_app.mp u1).1
    have v1 := (sg_app.mp u1).2
    have ul1 := (sg_app.mp v1).1
    have ur1 := (sg_app.mp v1).2
    simp only [List.length_cons, List.length_nil] at u1 ua1 v1 ul1 ur1
    have len1 : x1.2.1.length = 4 + a1.length + l1.length + r1.length := by rw [eq1, eqn_len]
    refine rcV (as := [.inl ((160 * (M.1.length - 1 - 1) : Nat) : Int)]) (rest := []) dm_Re_join_137 lc_Re_isEquation lm_Re_162 li_Re_isEquation (nr rfl rfl) rfl rfl rfl (nl rfl) (re_isEq1 (p := 160 * (M.1.length - 1 - 1)) (r := a1 ++ (l1 ++ r1)) sE1 rfl (by omega)) ?_
    rintro _ q1 ⟨rfl, hq1⟩
    have hq1 := hq1.symm
    subst hq1
    show rX E _ 140 [some (.inr (some E.1.length)), some (.inl 1), some (.inl ((160 * (M.1.length - 1 - 1) : Nat) : Int)), some (.inl (((160 * (M.1.length - 1 - 1) : Nat) : Int) + (x1.2.1.length : Int))), some (.inl ((160 * (M.1.length - 1 - 0) : Nat) : Int)), some (.inl (((160 * (M.1.length - 1 - 0) : Nat) : Int) + (x0.2.1.length : Int))), none, none, none] [.inl 1] _ _
    refine rx (xs_if_eq_f (tgt := 157) dm_Re_join_140 rfl (by unfold ir; omega) (by decide)) ?_
    refine rx (xs_iload_n dm_Re_join_143 rfl) ?_
    refine rx (xs_iconst dm_Re_join_144) ?_
    refine rx (xs_icmp_ne_f (tgt := 159) dm_Re_join_145 rfl (by unfold ir; omega) (by unfold ir; omega) (by simp)) ?_
    refine rx (xs_aload_n dm_Re_join_148 rfl) ?_
    refine rx (xs_iload dm_Re_join_149 rfl) ?_
    by_cases he0 : isE x0.2.1
    · obtain ⟨-, a0, l0, r0, hq0⟩ := eqP_of ht0 he0
      have hqx0 := eqx_of hq0
      obtain ⟨eq0, ta0, tl0, tr0⟩ := hq0
      have sE0 : sg qg (160 * (M.1.length - 1 - 0)) ([12, 12, 11, 0] ++ (a0 ++ (l0 ++ r0))) := by rw [show [12, 12, 11, 0] ++ (a0 ++ (l0 ++ r0)) = x0.2.1 by rw [eq0]; simp [eqn]]; exact sw0
      have u0 := (sg_app.mp sE0).2
      have ua0 := (sg_app.mp u0).1
      have v0 := (sg_app.mp u0).2
      have ul0 := (sg_app.mp v0).1
      have ur0 := (sg_app.mp v0).2
      simp only [List.length_cons, List.length_nil] at u0 ua0 v0 ul0 ur0
      have len0 : x0.2.1.length = 4 + a0.length + l0.length + r0.length := by rw [eq0, eqn_len]
      refine rcV (as := [.inl ((160 * (M.1.length - 1 - 0) : Nat) : Int)]) (rest := []) dm_Re_join_151 lc_Re_isEquation lm_Re_162 li_Re_isEquation (nr rfl rfl) rfl rfl rfl (nl rfl) (re_isEq1 (p := 160 * (M.1.length - 1 - 0)) (r := a0 ++ (l0 ++ r0)) sE0 rfl (by omega)) ?_
      rintro _ q1 ⟨rfl, hq1⟩
      have hq1 := hq1.symm
      subst hq1
      show rX E _ 154 [some (.inr (some E.1.length)), some (.inl 1), some (.inl ((160 * (M.1.length - 1 - 1) : Nat) : Int)), some (.inl (((160 * (M.1.length - 1 - 1) : Nat) : Int) + (x1.2.1.length : Int))), some (.inl ((160 * (M.1.length - 1 - 0) : Nat) : Int)), some (.inl (((160 * (M.1.length - 1 - 0) : Nat) : Int) + (x0.2.1.length : Int))), none, none, none] [.inl 1] _ _
      refine rx (xs_if_ne_t (tgt := 159) dm_Re_join_154 rfl (by unfold ir; omega) (by decide)) ?_
      refine rx (xs_aload_n dm_Re_join_159 rfl) ?_
      refine rx (xs_iload_n dm_Re_join_160 rfl) ?_
      refine rcV (as := [.inl ((160 * (M.1.length - 1 - 1) : Nat) : Int)]) (rest := []) dm_Re_join_161 lc_Re_left lm_Re_165 li_Re_left (nr rfl rfl) rfl rfl rfl (nl rfl) (re_left (p := 160 * (M.1.length - 1 - 1)) (a := a1) ua1 ta1 rfl (by omega)) ?_
      rintro _ q1 ⟨rfl, hq1⟩
      have hq1 := hq1.symm
      subst hq1
      show rX E _ 164 [some (.inr (some E.1.length)), some (.inl 1), some (.inl ((160 * (M.1.length - 1 - 1) : Nat) : Int)), some (.inl (((160 * (M.1.length - 1 - 1) : Nat) : Int) + (x1.2.1.length : Int))), some (.inl ((160 * (M.1.length - 1 - 0) : Nat) : Int)), some (.inl (((160 * (M.1.length - 1 - 0) : Nat) : Int) + (x0.2.1.length : Int))), none, none, none] [.inl (((160 * (M.1.length - 1 - 1) : Nat) : Int) + 4 + (a1.length : Int))] _ _
      refine rx (xs_istore dm_Re_join_164 (by decide)) ?_
      show rX E _ 166 [some (.inr (some E.1.length)), some (.inl 1), some (.inl ((160 * (M.1.length - 1 - 1) : Nat) : Int)), some (.inl (((160 * (M.1.length - 1 - 1) : Nat) : Int) + (x1.2.1.length : Int))), some (.inl ((160 * (M.1.length - 1 - 0) : Nat) : Int)), some (.inl (((160 * (M.1.length - 1 - 0) : Nat) : Int) + (x0.2.1.length : Int))), some (.inl (((160 * (M.1.length - 1 - 1) : Nat) : Int) + 4 + (a1.length : Int))), none, none] [] _ _
      refine rx (xs_aload_n dm_Re_join_166 rfl) ?_
      refine rx (xs_iload dm_Re_join_167 rfl) ?_
      refine rcV (as := [.inl (((160 * (M.1.length - 1 - 1) : Nat) : Int) + 4 + (a1.length : Int))]) (rest := []) dm_Re_join_169 lc_Re_skipTerm lm_Re_40 li_Re_skipTerm (nr rfl rfl) rfl rfl rfl (nl rfl) (re_skipTerm (p := 160 * (M.1.length - 1 - 1) + (0 + 1 + 1 + 1 + 1) + a1.length) ul1 tl1 (by omega) (by omega) (by simp)) ?_
      rintro _ q1 ⟨rfl, hq1⟩
      have hq1 := hq1.symm
      subst hq1
      show rX E _ 172 [some (.inr (some E.1.length)), some (.inl 1), some (.inl ((160 * (M.1.length - 1 - 1) : Nat) : Int)), some (.inl (((160 * (M.1.length - 1 - 1) : Nat) : Int) + (x1.2.1.length : Int))), some (.inl ((160 * (M.1.length - 1 - 0) : Nat) : Int)), some (.inl (((160 * (M.1.length - 1 - 0) : Nat) : Int) + (x0.2.1.length : Int))), some (.inl (((160 * (M.1.length - 1 - 1) : Nat) : Int) + 4 + (a1.length : Int))), none, none] [.inl (((160 * (M.1.length - 1 - 1) + (0 + 1 + 1 + 1 + 1) + a1.length : Nat) : Int) + (l1.length : Int))] _ _
      refine rx (xs_istore dm_Re_join_172 (by decide)) ?_
      show rX E _ 174 [some (.inr (some E.1.length)), some (.inl 1), some (.inl ((160 * (M.1.length - 1 - 1) : Nat) : Int)), some (.inl (((160 * (M.1.length - 1 - 1) : Nat) : Int) + (x1.2.1.length : Int))), some (.inl ((160 * (M.1.length - 1 - 0) : Nat) : Int)), some (.inl (((160 * (M.1.length - 1 - 0) : Nat) : Int) + (x0.2.1.length : Int))), some (.inl (((160 * (M.1.length - 1 - 1) : Nat) : Int) + 4 + (a1.length : Int))), some (.inl (((160 * (M.1.length - 1 - 1) + (0 + 1 + 1 + 1 + 1) + a1.length : Nat) : Int) + (l1.length : Int))), none] [] _ _
      refine rx (xs_iload_n dm_Re_join_174 rfl) ?_
      refine rx (xs_if_ne_t (tgt := 195) dm_Re_join_175 rfl (by unfold ir; omega) (by decide)) ?_
      refine rx (xs_iload_n dm_Re_join_195 rfl) ?_
      refine rx (xs_iconst dm_Re_join_196) ?_
      refine rx (xs_icmp_ne_f (tgt := 217) dm_Re_join_197 rfl (by unfold ir; omega) (by unfold ir; omega) (by simp)) ?_
      refine rx (xs_aload_n dm_Re_join_200 rfl) ?_
      refine rx (xs_iload dm_Re_join_201 rfl) ?_
      refine rx (xs_aload_n dm_Re_join_203 rfl) ?_
      refine rx (xs_iload dm_Re_join_204 rfl) ?_
      refine rcV (as := [.inl ((160 * (M.1.length - 1 - 0) : Nat) : Int)]) (rest := [.inl (((160 * (M.1.length - 1 - 1) : Nat) : Int) + 4 + (a1.length : Int)), .inr (some E.1.length)]) dm_Re_join_206 lc_Re_left lm_Re_165 li_Re_left (nr rfl rfl) rfl rfl rfl (nl rfl) (re_left (p := 160 * (M.1.length - 1 - 0)) (a := a0) ua0 ta0 rfl (by omega)) ?_
      rintro _ q1 ⟨rfl, hq1⟩
      have hq1 := hq1.symm
      subst hq1
      show rX E _ 209 [some (.inr (some E.1.length)), some (.inl 1), some (.inl ((160 * (M.1.length - 1 - 1) : Nat) : Int)), some (.inl (((160 * (M.1.length - 1 - 1) : Nat) : Int) + (x1.2.1.length : Int))), some (.inl ((160 * (M.1.length - 1 - 0) : Nat) : Int)), some (.inl (((160 * (M.1.length - 1 - 0) : Nat) : Int) + (x0.2.1.length : Int))), some (.inl (((160 * (M.1.length - 1 - 1) : Nat) : Int) + 4 + (a1.length : Int))), some (.inl (((160 * (M.1.length - 1 - 1) + (0 + 1 + 1 + 1 + 1) + a1.length : Nat) : Int) + (l1.length : Int))), none] [.inl (((160 * (M.1.length - 1 - 0) : Nat) : Int) + 4 + (a0.length : Int)), .inl (((160 * (M.1.length - 1 - 1) : Nat) : Int) + 4 + (a1.length : Int)), .inr (some E.1.length)] _ _
      have hA1 := isTm_tl tl1 l1.length (by simp) (Nat.le_refl _)
      have hA0 := isTm_tl tl0 l0.length (by simp) (Nat.le_refl _)
      by_cases hz : ∃ c d, isTy c ∧ a1 = 0 :: (c ++ d)
      · obtain ⟨c, d, tc, he⟩ := hz
        have td : isTy d := by
          rcases isTy_inv ta1 with e | ⟨k, _, _, e⟩ | ⟨c', d', u1, u2, e⟩
          · rw [e] at he; simp at he
          · rw [e] at he; simp at he; omega
          · rw [e] at he
            obtain ⟨e1, e2⟩ := isTy_fi u1 tc he
            rw [← e2]; exact u2
        have lena1 : a1.length = 1 + c.length + d.length := by rw [he]; simp; omega
        refine rcV (as := [.inl (((160 * (M.1.length - 1 - 1) : Nat) : Int) + 4 + (a1.length : Int)), .inl (((160 * (M.1.length - 1 - 0) : Nat) : Int) + 4 + (a0.length : Int))]) (rest := []) dm_Re_join_209 lc_Re_fits lm_Re_115 li_Re_fits (nr rfl rfl) rfl rfl rfl (nl rfl) (re_fits1 (pf := 160 * (M.1.length - 1 - 1) + (0 + 1 + 1 + 1 + 1) + a1.length) (px := 160 * (M.1.length - 1 - 0) + (0 + 1 + 1 + 1 + 1) + a0.length) ul1 ul0 tl1 tl0 (by omega) (by omega) (by omega) (by omega) (by omega) (by omega) (by omega) (by omega) tc td he) ?_
        rintro _ qf ⟨rfl, B, hqf⟩
        show rX E _ 212 [some (.inr (some E.1.length)), some (.inl 1), some (.inl ((160 * (M.1.length - 1 - 1) : Nat) : Int)), some (.inl (((160 * (M.1.length - 1 - 1) : Nat) : Int) + (x1.2.1.length : Int))), some (.inl ((160 * (M.1.length - 1 - 0) : Nat) : Int)), some (.inl (((160 * (M.1.length - 1 - 0) : Nat) : Int) + (x0.2.1.length : Int))), some (.inl (((160 * (M.1.length - 1 - 1) : Nat) : Int) + 4 + (a1.length : Int))), some (.inl (((160 * (M.1.length - 1 - 1) + (0 + 1 + 1 + 1 + 1) + a1.length : Nat) : Int) + (l1.length : Int))), none] [.inl (if c = a0 then 1 else 0)] _ _
        have o1 := emL_out qg (a1 ++ a0)
        simp only [List.length_append] at o1
        have ff : frM q qf := by rw [hqf]; exact frM_tr fg (frM_tr (frM_emL (by omega)) (frM_tr (frM_wb _ B) (frM_tr (frM_u6 (by omega)) (frM_u6 (by omega)))))
        have lkb : lok qf := by rw [hqf]; exact lok_u6 (lok_u6 (lok_wb (lok_emL lkg)))
        have b5 : qf 6 5 = ((5200 + a1.length + a0.length : Nat) : Int) := by rw [hqf, u3_ne (by omega), u3_ne (by omega)]; show (emL qg (a1 ++ a0)) 6 5 = _; omega
        have f28 : qf 2 28 = 2 := by rw [hqf, u3_ne (by omega), u3_ne (by omega)]; show (emL qg (a1 ++ a0)) 2 28 = 2; rw [emL_a (by omega) (by omega)]; exact k28
        have f29 : hyR qf 28 [] := hy0 (by rw [hqf, u3_ne (by omega), u3_ne (by omega)]; show (emL qg (a1 ++ a0)) 3 28 = 0; rw [emL_a (by omega) (by omega)]; exact h28.1)
        have f30 : qf 6 6 = 0 := by rw [hqf, u3_ne (by omega), u3_ne (by omega)]; show (emL qg (a1 ++ a0)) 6 6 = 0; rw [emL_s (by omega)]; exact g28
        have f7 : qf 6 7 = ((5200 + 1 + c.length : Nat) : Int) := by rw [hqf, u3_ne (by omega), u3_eq]; omega
        have f8 : qf 6 8 = ((5200 + 1 + c.length : Nat) : Int) + (d.length : Int) := by rw [hqf, u3_eq]; omega
        have sD : sg qf (5200 + 1 + c.length) d := by
          have h1 : sg (emL qg (a1 ++ a0)) 5200 (a1 ++ a0) := emL_sg (by omega) w5
          rw [show a1 ++ a0 = (0 :: c) ++ (d ++ a0) by rw [he]; simp] at h1
          have h2 := (sg_app.mp (sg_app.mp h1).2).1
          simp only [List.length_cons] at h2
          rw [hqf]
          intro i y hy
          rw [u3_ne (by omega), u3_ne (by omega)]
          show (emL qg (a1 ++ a0)) 0 _ = _
          rw [show a1 ++ a0 = (0 :: c) ++ (d ++ a0) by rw [he]; simp]
          have := h2 i y hy
          rw [show 5200 + (c.length + 1) + i = 5200 + 1 + c.length + i by omega] at this
          exact this
        have fgf : ∀ (p : Nat) (l : List Int), p + l.length ≤ 4480 → sg qg p l → sg qf p l := fun p l hp hs => sg_mono hs (fun k k1 k2 => by rw [hqf, u3_ne (by omega), u3_ne (by omega)]; show (emL qg (a1 ++ a0)) 0 k = _; exact emL_lo (by omega) (by omega))
        clear hqf
        by_cases hca : c = a0
        · rw [if_pos hca]
          have hdr : a1.drop (1 + a0.length) = d := by rw [he, ← hca]; simp [Nat.add_comm 1]
          have hst : st_cong M = fi M 2 (2, apE d (a1, l1, r1) (a0, l0, r0), (brg [] (brg [] ([], decide (40 < (apE d (a1, l1, r1) (a0, l0, r0)).length)) x1.2.2) x0.2.2).1) (brg [] (brg [] ([], decide (40 < (apE d (a1, l1, r1) (a0, l0, r0)).length)) x1.2.2) x0.2.2).2 := by rw [st_cong, kb0, kb1, kc0, kc1, hqx1, hqx0, ifc_t ⟨he1, he0, d, by show a1 = _; rw [he, hca]⟩]; show fi M 2 (2, apE (a1.drop (1 + a0.length)) _ _, _) _ = _; rw [hdr]
          have hel : (apE d (a1, l1, r1) (a0, l0, r0)).length = 4 + d.length + (1 + l1.length + l0.length) + (1 + r1.length + r0.length) := by unfold apE; rw [eqn_len]; simp; omega
          rw [hst]
          refine rx (xs_if_ne_t (tgt := 217) dm_Re_join_212 rfl (by unfold ir; omega) (by decide)) ?_
          refine rx (xs_aload_n dm_Re_join_217 rfl) ?_
          refine rx (rg (v := .inl (qf 6 5)) dm_Re_join_218 lf_Re_28 rfl) ?_
          refine rx (xs_istore dm_Re_join_221 (by decide)) ?_
          show rX E _ 223 [some (.inr (some E.1.length)), some (.inl 1), some (.inl ((160 * (M.1.length - 1 - 1) : Nat) : Int)), some (.inl (((160 * (M.1.length - 1 - 1) : Nat) : Int) + (x1.2.1.length : Int))), some (.inl ((160 * (M.1.length - 1 - 0) : Nat) : Int)), some (.inl (((160 * (M.1.length - 1 - 0) : Nat) : Int) + (x0.2.1.length : Int))), some (.inl (((160 * (M.1.length - 1 - 1) : Nat) : Int) + 4 + (a1.length : Int))), some (.inl (((160 * (M.1.length - 1 - 1) + (0 + 1 + 1 + 1 + 1) + a1.length : Nat) : Int) + (l1.length : Int))), some (.inl (qf 6 5))] [] _ _
          refine rx (xs_iload_n dm_Re_join_223 rfl) ?_
          refine rx (xs_if_ne_t (tgt := 237) dm_Re_join_224 rfl (by unfold ir; omega) (by decide)) ?_
          refine rx (xs_aload_n dm_Re_join_237 rfl) ?_
          refine rx (xs_iload dm_Re_join_238 rfl) ?_
          refine rx (xs_iload dm_Re_join_240 rfl) ?_
          refine rx (xs_iload_n dm_Re_join_242 rfl) ?_
          refine rx (xs_aload_n dm_Re_join_243 rfl) ?_
          refine rx (xs_iload dm_Re_join_244 rfl) ?_
          refine rcV (as := [.inl ((160 * (M.1.length - 1 - 0) : Nat) : Int)]) (rest := [.inl (((160 * (M.1.length - 1 - 1) : Nat) : Int) + (x1.2.1.length : Int)), .inl (((160 * (M.1.length - 1 - 1) + (0 + 1 + 1 + 1 + 1) + a1.length : Nat) : Int) + (l1.length : Int)), .inl (((160 * (M.1.length - 1 - 1) : Nat) : Int) + 4 + (a1.length : Int)), .inr (some E.1.length)]) dm_Re_join_246 lc_Re_left lm_Re_165 li_Re_left (nr rfl rfl) rfl rfl rfl (nl rfl) (re_left (p := 160 * (M.1.length - 1 - 0)) (a := a0) (fgf _ _ (by omega) ua0) ta0 rfl (by omega)) ?_
          rintro _ q1 ⟨rfl, hq1⟩
          have hq1 := hq1.symm
          subst hq1
          show rX E _ 249 [some (.inr (some E.1.length)), some (.inl 1), some (.inl ((160 * (M.1.length - 1 - 1) : Nat) : Int)), some (.inl (((160 * (M.1.length - 1 - 1) : Nat) : Int) + (x1.2.1.length : Int))), some (.inl ((160 * (M.1.length - 1 - 0) : Nat) : Int)), some (.inl (((160 * (M.1.length - 1 - 0) : Nat) : Int) + (x0.2.1.length : Int))), some (.inl (((160 * (M.1.length - 1 - 1) : Nat) : Int) + 4 + (a1.length : Int))), some (.inl (((160 * (M.1.length - 1 - 1) + (0 + 1 + 1 + 1 + 1) + a1.length : Nat) : Int) + (l1.length : Int))), some (.inl (qf 6 5))] [.inl (((160 * (M.1.length - 1 - 0) : Nat) : Int) + 4 + (a0.length : Int)), .inl (((160 * (M.1.length - 1 - 1) : Nat) : Int) + (x1.2.1.length : Int)), .inl (((160 * (M.1.length - 1 - 1) + (0 + 1 + 1 + 1 + 1) + a1.length : Nat) : Int) + (l1.length : Int)), .inl (((160 * (M.1.length - 1 - 1) : Nat) : Int) + 4 + (a1.length : Int)), .inr (some E.1.length)] _ _
          refine rx (xs_iload dm_Re_join_249 rfl) ?_
          refine rcV (as := [.inl (((160 * (M.1.length - 1 - 1) : Nat) : Int) + 4 + (a1.length : Int)), .inl (((160 * (M.1.length - 1 - 1) + (0 + 1 + 1 + 1 + 1) + a1.length : Nat) : Int) + (l1.length : Int)), .inl (((160 * (M.1.length - 1 - 1) : Nat) : Int) + (x1.2.1.length : Int)), .inl (((160 * (M.1.length - 1 - 0) : Nat) : Int) + 4 + (a0.length : Int)), .inl (((160 * (M.1.length - 1 - 0) : Nat) : Int) + (x0.2.1.length : Int))]) (rest := []) dm_Re_join_251 lc_Re_applied lm_Re_168 li_Re_applied (nr rfl rfl) rfl rfl rfl (nl rfl) (re_applied (pf := 160 * (M.1.length - 1 - 1) + (0 + 1 + 1 + 1 + 1) + a1.length) (px := 160 * (M.1.length - 1 - 0) + (0 + 1 + 1 + 1 + 1) + a0.length) (pd := 5200 + 1 + c.length) (fgf _ _ (by omega) ul1) (fgf _ _ (by omega) ur1) (fgf _ _ (by omega) ul0) (fgf _ _ (by omega) ur0) sD tl0 (by omega) (by omega) (by omega) (by omega) (by omega) f7 f8 (by omega) (by omega) (by omega) (by omega)) ?_
          rintro _ _ ⟨rfl, rfl⟩
          show rX E _ 254 [some (.inr (some E.1.length)), some (.inl 1), some (.inl ((160 * (M.1.length - 1 - 1) : Nat) : Int)), some (.inl (((160 * (M.1.length - 1 - 1) : Nat) : Int) + (x1.2.1.length : Int))), some (.inl ((160 * (M.1.length - 1 - 0) : Nat) : Int)), some (.inl (((160 * (M.1.length - 1 - 0) : Nat) : Int) + (x0.2.1.length : Int))), some (.inl (((160 * (M.1.length - 1 - 1) : Nat) : Int) + 4 + (a1.length : Int))), some (.inl (((160 * (M.1.length - 1 - 1) + (0 + 1 + 1 + 1 + 1) + a1.length : Nat) : Int) + (l1.length : Int))), some (.inl (qf 6 5))] [] _ _
          exact re_join_t E hg hR hx0 hx1 (l := apE d (a1, l1, r1) (a0, l0, r0)) (s := 5200 + a1.length + a0.length) b5 b5 (by omega) (by omega) (by omega) ff f28 f29 f30 lkb
        · rw [if_neg hca]
          refine rx (xs_if_ne_f (tgt := 217) dm_Re_join_212 rfl (by unfold ir; omega) (by decide)) ?_
          have hst : st_cong M = (2, M) := by
            rw [st_cong, ifc_f]
            rw [kb0, kb1, hqx1, hqx0]
            rintro ⟨-, -, d', e'⟩
            exact hca (isTy_fi tc ta0 (he.symm.trans e')).1
          refine rx (xs_iconst dm_Re_join_215) ?_
          exact rri dm_Re_join_216 rfl ⟨vi (by rw [hst]), by rw [hst]; exact Rl_fr hg hR ff lkb⟩
      · refine rcV (as := [.inl (((160 * (M.1.length - 1 - 1) : Nat) : Int) + 4 + (a1.length : Int)), .inl (((160 * (M.1.length - 1 - 0) : Nat) : Int) + 4 + (a0.length : Int))]) (rest := []) dm_Re_join_209 lc_Re_fits lm_Re_115 li_Re_fits (nr rfl rfl) rfl rfl rfl (nl rfl) (re_fits0 (pf := 160 * (M.1.length - 1 - 1) + (0 + 1 + 1 + 1 + 1) + a1.length) (px := 160 * (M.1.length - 1 - 0) + (0 + 1 + 1 + 1 + 1) + a0.length) ul1 ul0 tl1 tl0 (by omega) (by omega) (by omega) (by omega) (by omega) (by omega) (by omega) (by omega) (fun c d tc e => hz ⟨c, d, tc, e⟩)) ?_
        rintro _ qf ⟨rfl, B, hqf⟩
        show rX E _ 212 [some (.inr (some E.1.length)), some (.inl 1), some (.inl ((160 * (M.1.length - 1 - 1) : Nat) : Int)), some (.inl (((160 * (M.1.length - 1 - 1) : Nat) : Int) + (x1.2.1.length : Int))), some (.inl ((160 * (M.1.length - 1 - 0) : Nat) : Int)), some (.inl (((160 * (M.1.length - 1 - 0) : Nat) : Int) + (x0.2.1.length : Int))), some (.inl (((160 * (M.1.length - 1 - 1) : Nat) : Int) + 4 + (a1.length : Int))), some (.inl (((160 * (M.1.length - 1 - 1) + (0 + 1 + 1 + 1 + 1) + a1.length : Nat) : Int) + (l1.length : Int))), none] [.inl 0] _ _
        refine rx (xs_if_ne_f (tgt := 217) dm_Re_join_212 rfl (by unfold ir; omega) (by decide)) ?_
        have hst : st_cong M = (2, M) := by
          rw [st_cong, ifc_f]
          rw [kb0, kb1, hqx1, hqx0]
          rintro ⟨-, -, d', e'⟩
          exact hz ⟨a0, d', ta0, e'⟩
        refine rx (xs_iconst dm_Re_join_215) ?_
        exact rri dm_Re_join_216 rfl ⟨vi (by rw [hst]), by rw [hst]; exact (by rw [hqf]; exact Rl_fr hg hR (frM_tr fg (frM_tr (frM_emL (by omega)) (frM_wb _ B))) (lok_wb (lok_emL lkg)))⟩
    · refine rcV (as := [.inl ((160 * (M.1.length - 1 - 0) : Nat) : Int)]) (rest := []) dm_Re_join_151 lc_Re_isEquation lm_Re_162 li_Re_isEquation (nr rfl rfl) rfl rfl rfl (nl rfl) (re_isEq0 sw0 ht0 he0 rfl (by omega) (by simp; omega)) ?_
      rintro _ q1 ⟨rfl, hq1⟩
      have hq1 := hq1.symm
      subst hq1
      show rX E _ 154 [some (.inr (some E.1.length)), some (.inl 1), some (.inl ((160 * (M.1.length - 1 - 1) : Nat) : Int)), some (.inl (((160 * (M.1.length - 1 - 1) : Nat) : Int) + (x1.2.1.length : Int))), some (.inl ((160 * (M.1.length - 1 - 0) : Nat) : Int)), some (.inl (((160 * (M.1.length - 1 - 0) : Nat) : Int) + (x0.2.1.length : Int))), none, none, none] [.inl 0] _ _
      refine rx (xs_if_ne_f (tgt := 159) dm_Re_join_154 rfl (by unfold ir; omega) (by decide)) ?_
      have hst : st_cong M = (2, M) := by
        rw [st_cong, ifc_f]
        rw [kb0]; exact fun h => he0 h.2.1
      refine rx (xs_iconst dm_Re_join_157) ?_
      exact rri dm_Re_join_158 rfl ⟨vi (by rw [hst]), by rw [hst]; exact R0⟩
  · refine rcV (as := [.inl ((160 * (M.1.length - 1 - 1) : Nat) : Int)]) (rest := []) dm_Re_join_137 lc_Re_isEquation lm_Re_162 li_Re_isEquation (nr rfl rfl) rfl rfl rfl (nl rfl) (re_isEq0 sw1 ht1 he1 rfl (by omega) (by simp; omega)) ?_
    rintro _ q1 ⟨rfl, hq1⟩
    have hq1 := hq1.symm
    subst hq1
    show rX E _ 140 [some (.inr (some E.1.length)), some (.inl 1), some (.inl ((160 * (M.1.length - 1 - 1) : Nat) : Int)), some (.inl (((160 * (M.1.length - 1 - 1) : Nat) : Int) + (x1.2.1.length : Int))), some (.inl ((160 * (M.1.length - 1 - 0) : Nat) : Int)), some (.inl (((160 * (M.1.length - 1 - 0) : Nat) : Int) + (x0.2.1.length : Int))), none, none, none] [.inl 0] _ _
    refine rx (xs_if_eq_t (tgt := 157) dm_Re_join_140 rfl (by unfold ir; omega) (by decide)) ?_
    have hst : st_cong M = (2, M) := by
      rw [st_cong, ifc_f]
      rw [kb1]; exact fun h => he1 h.1
    refine rx (xs_iconst dm_Re_join_157) ?_
    exact rri dm_Re_join_158 rfl ⟨vi (by rw [hst]), by rw [hst]; exact R0⟩
set_option maxHeartbeats 4000000 in
set_option maxRecDepth 100000 in
theorem re_join {q : rS} {M : mS} {c : Int} (hg : gM M) (hR : Rl q M) (hr : ir c) : rM mm_Re_join [.inl c] q (fun r q' => r = some (.inl (st_join M c).1) ∧ Rl q' (st_join M c).2) := by

  by_cases hk : kd M 0 = 2 ∧ kd M 1 = 2
  · by_cases h0 : c = 0
    · subst h0; rw [show st_join M 0 = st_eqmp M by unfold st_join; rw [if_neg (fun h => h hk), if_pos rfl]]; exact re_join0 hg hR hk.1 hk.2
    · by_cases h1 : c = 1
      · subst h1; rw [show st_join M 1 = st_cong M by unfold st_join; rw [if_neg (fun h => h hk), if_neg (by decide), if_pos rfl]]; exact re_join1 hg hR hk.1 hk.2
      · by_cases h2 : c = 2
        · subst h2; rw [show st_join M 2 = st_ded M by unfold st_join; rw [if_neg (fun h => h hk), if_neg (by decide), if_neg (by decide), if_pos rfl]]; exact re_join2 hg hR hk.1 hk.2
        · rw [show st_join M c = (2, M) by unfold st_join; rw [if_neg (fun h => h hk), if_neg h0, if_neg h1, if_neg h2]]
          refine rm rfl (nl rfl) (fun E => ?_)
          have i0 := (kd_ir hg 0).1
          have i1 := (kd_ir hg 1).1
          show rX E _ 0 [some (.inr (some E.1.length)), some (.inl c), none, none, none, none, none, none, none] [] _ _
          refine rx (xs_aload_n dm_Re_join_0 rfl) ?_
          refine rx (xs_iconst dm_Re_join_1) ?_
          refine rcV (as := [.inl 0]) (rest := []) dm_Re_join_2 lc_Re_top lm_Re_85 li_Re_top (nr rfl rfl) rfl rfl rfl (nl rfl) (re_top' (i := 0) hg hR rfl (by decide)) ?_
          rintro _ q1 ⟨rfl, hq1⟩
          have hq1 := hq1.symm
          subst hq1
          show rX E _ 5 [some (.inr (some E.1.length)), some (.inl c), none, none, none, none, none, none, none] [.inl (kd M 0)] _ _
          refine rx (xs_iconst dm_Re_join_5) ?_
          refine rx (xs_icmp_ne_f (tgt := 18) dm_Re_join_6 rfl i0 (by unfold ir; omega) hk.1) ?_
          refine rx (xs_aload_n dm_Re_join_9 rfl) ?_
          refine rx (xs_iconst dm_Re_join_10) ?_
          refine rcV (as := [.inl 1]) (rest := []) dm_Re_join_11 lc_Re_top lm_Re_85 li_Re_top (nr rfl rfl) rfl rfl rfl (nl rfl) (re_top' (i := 1) hg hR rfl (by decide)) ?_
          rintro _ q1 ⟨rfl, hq1⟩
          have hq1 := hq1.symm
          subst hq1
          show rX E _ 14 [some (.inr (some E.1.length)), some (.inl c), none, none, none, none, none, none, none] [.inl (kd M 1)] _ _
          refine rx (xs_iconst dm_Re_join_14) ?_
          refine rx (xs_icmp_eq_t (tgt := 20) dm_Re_join_15 rfl i1 (by unfold ir; omega) hk.2) ?_
          refine rx (xs_iload_n dm_Re_join_20 rfl) ?_
          refine xx_if_lt (tgt := 29) dm_Re_join_21 rfl hr (fun hc => ?_) (fun hc => ?_)
          · change rX E _ 29 _ _ _ _
            refine rx (xs_iconst dm_Re_join_29) ?_
            exact rri dm_Re_join_30 rfl ⟨rfl, hR⟩
          · change rX E _ 24 _ _ _ _
            refine rx (xs_iload_n dm_Re_join_24 rfl) ?_
            refine rx (xs_iconst dm_Re_join_25) ?_
            refine rx (xs_icmp_le_f (tgt := 31) dm_Re_join_26 rfl hr (by unfold ir; omega) (by omega)) ?_
            refine rx (xs_iconst dm_Re_join_29) ?_
            exact rri dm_Re_join_30 rfl ⟨rfl, hR⟩
  · rw [show st_join M c = (1, M) by unfold st_join; rw [if_pos hk]]
    refine rm rfl (nl rfl) (fun E => ?_)
    have i0 := (kd_ir hg 0).1
    have i1 := (kd_ir hg 1).1
    show rX E _ 0 [some (.inr (some E.1.length)), some (.inl c), none, none, none, none, none, none, none] [] _ _
    refine rx (xs_aload_n dm_Re_join_0 rfl) ?_
    refine rx (xs_iconst dm_Re_join_1) ?_
    refine rcV (as := [.inl 0]) (rest := []) dm_Re_join_2 lc_Re_top lm_Re_85 li_Re_top (nr rfl rfl) rfl rfl rfl (nl rfl) (re_top' (i := 0) hg hR rfl (by decide)) ?_
    rintro _ q1 ⟨rfl, hq1⟩
    have hq1 := hq1.symm
    subst hq1
    show rX E _ 5 [some (.inr (some E.1.length)), some (.inl c), none, none, none, none, none, none, none] [.inl (kd M 0)] _ _
    refine rx (xs_iconst dm_Re_join_5) ?_
    refine xx_icmp_ne (tgt := 18) dm_Re_join_6 rfl i0 (by unfold ir; omega) (fun hc => ?_) (fun hc => ?_)
    · change rX E _ 18 _ _ _ _
      refine rx (xs_iconst dm_Re_join_18) ?_
      exact rri dm_Re_join_19 rfl ⟨rfl, hR⟩
    · change rX E _ 9 _ _ _ _
      refine rx (xs_aload_n dm_Re_join_9 rfl) ?_
      refine rx (xs_iconst dm_Re_join_10) ?_
      refine rcV (as := [.inl 1]) (rest := []) dm_Re_join_11 lc_Re_top lm_Re_85 li_Re_top (nr rfl rfl) rfl rfl rfl (nl rfl) (re_top' (i := 1) hg hR rfl (by decide)) ?_
      rintro _ q1 ⟨rfl, hq1⟩
      have hq1 := hq1.symm
      subst hq1
      show rX E _ 14 [some (.inr (some E.1.length)), some (.inl c), none, none, none, none, none, none, none] [.inl (kd M 1)] _ _
      refine rx (xs_iconst dm_Re_join_14) ?_
      refine rx (xs_icmp_eq_f (tgt := 20) dm_Re_join_15 rfl i1 (by unfold ir; omega) (fun h => hk ⟨by omega, h⟩)) ?_
      refine rx (xs_iconst dm_Re_join_18) ?_
      exact rri dm_Re_join_19 rfl ⟨rfl, hR⟩
