/-! theorem -/
def eqn (a l r : List Int) : List Int := 12 :: 12 :: 11 :: 0 :: (a ++ (l ++ r))
theorem eqn_len (a l r : List Int) : (eqn a l r).length = 4 + a.length + l.length + r.length := by simp [eqn]; omega
noncomputable def st_refl (M : mS) : Int × mS := fi M 1 (2, eqn (tyO (mn M 0)) (mn M 0) (mn M 0), []) (decide (40 < (eqn (tyO (mn M 0)) (mn M 0) (mn M 0)).length))
noncomputable def st_assume (M : mS) : Int × mS := ifc (tyO (mn M 0) = [1]) (fi M 1 (2, mn M 0, [mn M 0]) false) (2, M)
/-- an abstraction that is applied: its type, its body, the argument -/
def bx (t c u x : List Int) : Prop := t = 12 :: (13 :: (c ++ u) ++ x) ∧ isTy c ∧ (∃ b, isTm [c] u b) ∧ isTm [] x c
noncomputable def st_beta (M : mS) : Int × mS := ifc (∃ r, mn M 0 = 12 :: 13 :: r) (fi M 1 (2, eqn (tyO (mn M 0)) (mn M 0) (Classical.epsilon (fun l => ∃ c u x, bx (mn M 0) c u x ∧ l = betC x u ([], 1))), []) (decide (40 < (eqn (tyO (mn M 0)) (mn M 0) (Classical.epsilon (fun l => ∃ c u x, bx (mn M 0) c u x ∧ l = betC x u ([], 1)))).length))) (2, M)
noncomputable def st_axiom (M : mS) : Int × mS := ifc (tyO (mn M 0) = [1]) (if M.2.2.1.length = 5 ∨ M.2.2.2.2.2 = 120 then (4, M) else (0, (2, mn M 0, []) :: M.1.drop 1, M.2.1, M.2.2.1 ++ [(2, mn M 0, [])], M.2.2.2.1, M.2.2.2.2.1, M.2.2.2.2.2 + 1)) (2, M)
noncomputable def dfl (M : mS) : List Int := eqn (tyO (mn M 0)) (11 :: ((M.2.2.2.2.1.length : Int) + 1) :: tyO (mn M 0)) (mn M 0)
noncomputable def st_define (M : mS) : Int × mS := ifc (clC (tyO (mn M 0)) (mn M 0)) (if 40 < (dfl M).length ∨ M.2.2.2.2.1.length = 6 ∨ M.2.2.2.2.2 = 120 then (4, M) else (0, (2, dfl M, []) :: M.1.drop 1, M.2.1, M.2.2.1, M.2.2.2.1, M.2.2.2.2.1 ++ [tyO (mn M 0)], M.2.2.2.2.2 + 1)) (3, M)
noncomputable def st_theorem (M : mS) (r : Int) : Int × mS := if ¬ kd M 0 = 1 then (1, M) else if r = 0 then st_refl M else if r = 1 then st_assume M else if r = 2 then st_beta M else if r = 3 then st_axiom M else if r = 4 then st_define M else (2, M)
theorem bx_uni {t c u x c' u' x' : List Int} (h : bx t c u x) (h' : bx t c' u' x') : c = c' ∧ u = u' ∧ x = x' := by
  obtain ⟨e, tc, ⟨b, tu⟩, tx⟩ := h
  obtain ⟨e', tc', ⟨b', tu'⟩, tx'⟩ := h'
  rw [e] at e'
  simp at e'
  obtain ⟨e1, e2⟩ := isTy_cut tc tc' e'
  obtain ⟨e3, e4⟩ := isTm_cut tu tu' (by have := isTm_hdT tx []; simpa using this) (by have := isTm_hdT tx' []; simpa using this) e2
  exact ⟨e1, e3, e4⟩
theorem bx_eps {t c u x : List Int} (h : bx t c u x) : Classical.epsilon (fun l => ∃ c u x, bx t c u x ∧ l = betC x u ([], 1)) = betC x u ([], 1) := by
  obtain ⟨c', u', x', h1, h2⟩ := Classical.epsilon_spec (p := fun l => ∃ c u x, bx t c u x ∧ l = betC x u ([], 1)) ⟨_, c, u, x, h, rfl⟩
  obtain ⟨-, e2, e3⟩ := bx_uni h h1
  rw [h2, ← e2, ← e3]
theorem bx_of {t a r : List Int} (ht : isTm [] t a) (e : t = 12 :: 13 :: r) : ∃ c u x, bx t c u x := by
  rcases isTm_inv ht with ⟨n, _, _, _, e2⟩ | ⟨c, _, _, _, e2⟩ | ⟨s, _, e2, _⟩ | ⟨d, _, _, e2⟩ | ⟨f, x, s, ts, ta, tf, tx, e2⟩ | ⟨s, u, b, _, _, _, e2, _⟩
  · rw [e] at e2; simp at e2
  · rw [e] at e2; simp at e2
  · rw [e] at e2; simp at e2
  · rw [e] at e2; simp at e2
  · rw [e] at e2
    simp at e2
    rcases isTm_inv tf with ⟨n, _, _, _, e3⟩ | ⟨c, _, _, _, e3⟩ | ⟨s', _, e3, _⟩ | ⟨d, _, _, e3⟩ | ⟨f', x', s', _, _, _, _, e3⟩ | ⟨c, u, b, tc, tb, tu, e3, e4⟩
    · rw [e3] at e2; simp at e2
    · rw [e3] at e2; simp at e2
    · rw [e3] at e2; simp at e2
    · rw [e3] at e2; simp at e2; omega
    · rw [e3] at e2; simp at e2
    · have h9 := isTy_fi ts tc e4
      refine ⟨c, u, x, ?_, tc, ⟨b, tu⟩, by rw [← h9.1]; exact tx⟩
      rw [e, e2, e3]
  · rw [e] at e2; simp at e2
/-- a main row that comes last: the flag tells whether it was too long -/
theorem pa_B {q : rS} {s : Nat} {l : List Int} {k : Int} {x : List (List Int) × Bool} (hl : sg q s l) (hk : q 2 28 = k) (hy : hyB q x) (hlk : lok q) : (l.length ≤ 40 → rOb (paF q s l.length) 28 (k, l, x.1)) ∧ lok (paF q s l.length) ∧ hyB (paF q s l.length) (x.1, decide (40 < l.length) || x.2) := by
  obtain ⟨a, b, c⟩ := pa_ok hl hk hy.1 hlk
  refine ⟨a, b, ?_, ?_⟩
  · obtain ⟨y1, y2, y3⟩ := hy.1
    refine ⟨by rw [pa_fr (by omega) (by omega) (by omega)]; exact y1, y2, fun i h hh => ?_⟩
    obtain ⟨a1, a2, a3⟩ := y3 i h hh
    have := (List.getElem?_eq_some_iff.mp hh).1
    exact ⟨by rw [pa_fr (by omega) (by omega) (by omega)]; exact a1, sg_mono a2 (fun k k1 k2 => pa_fr (by omega) (by omega) (by omega)), a3⟩
  · rw [c]
    by_cases h : 40 < l.length
    · rw [if_pos h]; simp [h, bI]
    · rw [if_neg h, hy.2]; simp [h]
set_option maxHeartbeats 4000000 in
set_option maxRecDepth 100000 in
theorem re_claim1 {q : rS} {M : mS} (hg : gM M) (hR : Rl q M) {s : Nat} {x0 : oB} (hx0 : M.1[0]? = some x0) (hk : x0.1 = 1) (ht : isTm [] x0.2.1 [1]) (hRq : Rl q M) (hso : q 6 5 = (s : Int)) (hs0 : 5200 ≤ s) (hs1 : s ≤ 9000) (k28 : q 2 28 = 2) (h28 : hyB q ([], false)) {t te : Int} (htt : t = ((160 * (M.1.length - 1 - 0) : Nat) : Int)) (hte : te = ((160 * (M.1.length - 1 - 0) : Nat) : Int) + (x0.2.1.length : Int)) : rM mm_Re_claim [.inl 1, .inl t, .inl te] q (fun r q' => r = some (.inl (fi M 1 (2, x0.2.1, [x0.2.1]) false).1) ∧ Rl q' (fi M 1 (2, x0.2.1, [x0.2.1]) false).2) := by
  refine rm rfl (nl rfl) (fun E => ?_)
  have g6 := hg.2.2.2.2.2.1
  have g7 := hg.2.2.2.2.2.2.1
  have g8 := hg.2.2.2.2.2.2.2.1
  have g9 := hg.2.2.2.2.2.2.2.2.1
  have g10 := hg.2.2.2.2.2.2.2.2.2
  have r1 := hR.1
  have r4 : q 6 1 = (M.2.2.1.length : Int) := hR.2.2.2.1
  have r6 : q 6 2 = (M.2.2.2.1.length : Int) := hR.2.2.2.2.2.1
  have r8 : q 6 3 = (M.2.2.2.2.1.length : Int) := hR.2.2.2.2.2.2.2.1
  have r10 : q 6 4 = (M.2.2.2.2.2 : Int) := hR.2.2.2.2.2.2.2.2.2.1
  have hlk := hR.2.2.2.2.2.2.2.2.2.2
  obtain ⟨wa0, wb0, wc0⟩ := Rl_row hR hx0
  have hlt0 := (List.getElem?_eq_some_iff.mp hx0).1
  have gx0 := gM_top hg hx0
  have o1 := emL_out q x0.2.1
  have fe : frM q (emL q x0.2.1) := frM_emL (by omega)
  have hl40 : ¬ 40 < x0.2.1.length := by omega
  have key := pa_B (q := emL q x0.2.1) (s := s) (l := x0.2.1) (k := 2) (x := ([], false)) (emL_sg (by omega) hso) (by rw [emL_a (by omega) (by omega)]; exact k28) ⟨emL_h (by omega) h28.1, by rw [emL_s (by omega)]; exact h28.2⟩ (lok_emL hlk)
  simp only [hl40, decide_false, Bool.or_false] at key
  have fp : frM q (paF (emL q x0.2.1) s x0.2.1.length) := frM_tr fe (frM_part (by decide))
  show rX E _ 0 [some (.inr (some E.1.length)), some (.inl 1), some (.inl t), some (.inl te), none] [] _ _
  refine rx (xs_aload_n dm_Re_claim_0 rfl) ?_
  refine rx (rg (v := .inl (q 6 5)) dm_Re_claim_1 lf_Re_28 rfl) ?_
  refine rx (xs_istore dm_Re_claim_4 (by decide)) ?_
  show rX E _ 6 [some (.inr (some E.1.length)), some (.inl 1), some (.inl t), some (.inl te), some (.inl (q 6 5))] [] _ _
  refine rx (xs_aload_n dm_Re_claim_6 rfl) ?_
  refine rx (xs_iload_n dm_Re_claim_7 rfl) ?_
  refine rx (xs_iload_n dm_Re_claim_8 rfl) ?_
  refine rcV (as := [.inl t, .inl te]) (rest := []) dm_Re_claim_9 lc_Re_emitRow lm_Re_43 li_Re_emitRow (nr rfl rfl) rfl rfl rfl (nl rfl) (re_emitRow wb0 htt hte (by omega) (by omega)) ?_
  rintro _ _ ⟨rfl, rfl⟩
  show rX E _ 12 [some (.inr (some E.1.length)), some (.inl 1), some (.inl t), some (.inl te), some (.inl (q 6 5))] [] _ _
  refine rx (xs_aload_n dm_Re_claim_12 rfl) ?_
  refine rx (xs_iconst dm_Re_claim_13) ?_
  refine rx (xs_iload dm_Re_claim_14 rfl) ?_
  refine rcV (as := [.inl 0, .inl (q 6 5)]) (rest := []) dm_Re_claim_16 lc_Re_part lm_Re_66 li_Re_part (nr rfl rfl) rfl rfl rfl (nl rfl) (re_pa (s := s) (n := x0.2.1.length) hso (by omega) hs0 (by omega)) ?_
  rintro _ _ ⟨rfl, rfl⟩
  show rX E _ 19 [some (.inr (some E.1.length)), some (.inl 1), some (.inl t), some (.inl te), some (.inl (q 6 5))] [] _ _
  refine rx (xs_iload_n dm_Re_claim_19 rfl) ?_
  refine rx (xs_iconst dm_Re_claim_20) ?_
  refine rx (xs_icmp_ne_f (tgt := 36) dm_Re_claim_21 rfl (by unfold ir; omega) (by unfold ir; omega) (by decide)) ?_
  refine rx (xs_aload_n dm_Re_claim_24 rfl) ?_
  refine rx (xs_iload dm_Re_claim_25 rfl) ?_
  have sgp : sg (paF (emL q x0.2.1) s x0.2.1.length) s x0.2.1 := sg_mono (emL_sg (by omega) hso) (fun k k1 k2 => pa_fr (by omega) (by omega) (by omega))
  have e5 : (paF (emL q x0.2.1) s x0.2.1.length) 6 5 = (s : Int) + (x0.2.1.length : Int) := by rw [pa_fr (by omega) (by omega) (by omega)]; omega
  refine rcV (as := [.inl (q 6 5)]) (rest := []) dm_Re_claim_27 lc_Re_hypothesis lm_Re_73 li_Re_hypothesis (nr rfl rfl) rfl rfl rfl (nl rfl) (re_hypothesis (s := s) (l := x0.2.1) hso sgp e5 hs0 (by omega) (gO_ir gx0).1 key.2.2 (by simp) key.2.1) ?_
  rintro _ q2 ⟨rfl, hy2, fr2, lk2⟩
  show rX E _ 30 [some (.inr (some E.1.length)), some (.inl 1), some (.inl t), some (.inl te), some (.inl (q 6 5))] [] _ _
  have hh : hin x0.2.1 ([], false) = ([x0.2.1], false) := by simp [hin, pos, insA, hl40]
  rw [hh] at hy2
  have f2 : frM q q2 := frM_tr fp (frM_B fr2)
  have ob2 : rOb q2 28 (2, x0.2.1, [x0.2.1]) := by
    obtain ⟨a1, a2, a3⟩ := key.1 (by omega)
    refine ⟨by rw [fr2 _ _ (by omega) (by omega) (by omega) (by omega)]; exact a1, ?_, hy2.1⟩
    obtain ⟨b1, b2, b3⟩ := a2
    exact ⟨by rw [fr2 _ _ (by omega) (by omega) (by omega) (by omega)]; exact b1, sg_mono b2 (fun k k1 k2 => by
      have hb3 : x0.2.1.length ≤ 40 := b3
      have k3 : k < 160 * 28 + 40 * 0 + x0.2.1.length := k2
      exact fr2 _ _ (by omega) (by omega) (by omega) (by omega)), b3⟩
  refine rx (xs_aload_n dm_Re_claim_30 rfl) ?_
  refine rx (xs_iconst dm_Re_claim_31) ?_
  refine rcV (as := [.inl 1]) (rest := []) dm_Re_claim_32 lc_Re_done lm_Re_91 li_Re_done (nr rfl rfl) rfl rfl rfl (nl rfl) (re_done (n := 1) (x := (2, x0.2.1, [x0.2.1])) (b := false) hg (Rl_fr hg hR f2 lk2) rfl (by omega) (by omega) hy2.2 (fun _ => ob2)) ?_
  rintro _ q9 ⟨rfl, hR9⟩
  show rX E _ 35 [some (.inr (some E.1.length)), some (.inl 1), some (.inl t), some (.inl te), some (.inl (q 6 5))] [.inl (fi M 1 (2, x0.2.1, [x0.2.1]) false).1] _ _
  exact rri dm_Re_claim_35 rfl ⟨rfl, hR9⟩
set_option maxHeartbeats 4000000 in
set_option maxRecDepth 100000 in
theorem re_claim3 {q : rS} {M : mS} (hg : gM M) (hR : Rl q M) {s : Nat} {x0 : oB} (hx0 : M.1[0]? = some x0) (hk : x0.1 = 1) (ht : isTm [] x0.2.1 [1]) (hRq : Rl q M) (hso : q 6 5 = (s : Int)) (hs0 : 5200 ≤ s) (hs1 : s ≤ 9000) (k28 : q 2 28 = 2) (h28 : hyB q ([], false)) {t te : Int} (htt : t = ((160 * (M.1.length - 1 - 0) : Nat) : Int)) (hte : te = ((160 * (M.1.length - 1 - 0) : Nat) : Int) + (x0.2.1.length : Int)) : rM mm_Re_claim [.inl 3, .inl t, .inl te] q (fun r q' => r = some (.inl ((if M.2.2.1.length = 5 ∨ M.2.2.2.2.2 = 120 then (4, M) else (0, (2, x0.2.1, []) :: M.1.drop 1, M.2.1, M.2.2.1 ++ [(2, x0.2.1, [])], M.2.2.2.1, M.2.2.2.2.1, M.2.2.2.2.2 + 1) : Int × mS)).1) ∧ Rl q' ((if M.2.2.1.length = 5 ∨ M.2.2.2.2.2 = 120 then (4, M) else (0, (2, x0.2.1, []) :: M.1.drop 1, M.2.1, M.2.2.1 ++ [(2, x0.2.1, [])], M.2.2.2.1, M.2.2.2.2.1, M.2.2.2.2.2 + 1) : Int × mS)).2) := by
  refine rm rfl (nl rfl) (fun E => ?_)
  have g6 := hg.2.2.2.2.2.1
  have g7 := hg.2.2.2.2.2.2.1
  have g8 := hg.2.2.2.2.2.2.2.1
  have g9 := hg.2.2.2.2.2.2.2.2.1
  have g10 := hg.2.2.2.2.2.2.2.2.2
  have r1 := hR.1
  have r4 : q 6 1 = (M.2.2.1.length : Int) := hR.2.2.2.1
  have r6 : q 6 2 = (M.2.2.2.1.length : Int) := hR.2.2.2.2.2.1
  have r8 : q 6 3 = (M.2.2.2.2.1.length : Int) := hR.2.2.2.2.2.2.2.1
  have r10 : q 6 4 = (M.2.2.2.2.2 : Int) := hR.2.2.2.2.2.2.2.2.2.1
  have hlk := hR.2.2.2.2.2.2.2.2.2.2
  obtain ⟨wa0, wb0, wc0⟩ := Rl_row hR hx0
  have hlt0 := (List.getElem?_eq_some_iff.mp hx0).1
  have gx0 := gM_top hg hx0
  have o1 := emL_out q x0.2.1
  have fe : frM q (emL q x0.2.1) := frM_emL (by omega)
  have hl40 : ¬ 40 < x0.2.1.length := by omega
  have key := pa_B (q := emL q x0.2.1) (s := s) (l := x0.2.1) (k := 2) (x := ([], false)) (emL_sg (by omega) hso) (by rw [emL_a (by omega) (by omega)]; exact k28) ⟨emL_h (by omega) h28.1, by rw [emL_s (by omega)]; exact h28.2⟩ (lok_emL hlk)
  simp only [hl40, decide_false, Bool.or_false] at key
  have fp : frM q (paF (emL q x0.2.1) s x0.2.1.length) := frM_tr fe (frM_part (by decide))
  show rX E _ 0 [some (.inr (some E.1.length)), some (.inl 3), some (.inl t), some (.inl te), none] [] _ _
  refine rx (xs_aload_n dm_Re_claim_0 rfl) ?_
  refine rx (rg (v := .inl (q 6 5)) dm_Re_claim_1 lf_Re_28 rfl) ?_
  refine rx (xs_istore dm_Re_claim_4 (by decide)) ?_
  show rX E _ 6 [some (.inr (some E.1.length)), some (.inl 3), some (.inl t), some (.inl te), some (.inl (q 6 5))] [] _ _
  refine rx (xs_aload_n dm_Re_claim_6 rfl) ?_
  refine rx (xs_iload_n dm_Re_claim_7 rfl) ?_
  refine rx (xs_iload_n dm_Re_claim_8 rfl) ?_
  refine rcV (as := [.inl t, .inl te]) (rest := []) dm_Re_claim_9 lc_Re_emitRow lm_Re_43 li_Re_emitRow (nr rfl rfl) rfl rfl rfl (nl rfl) (re_emitRow wb0 htt hte (by omega) (by omega)) ?_
  rintro _ _ ⟨rfl, rfl⟩
  show rX E _ 12 [some (.inr (some E.1.length)), some (.inl 3), some (.inl t), some (.inl te), some (.inl (q 6 5))] [] _ _
  refine rx (xs_aload_n dm_Re_claim_12 rfl) ?_
  refine rx (xs_iconst dm_Re_claim_13) ?_
  refine rx (xs_iload dm_Re_claim_14 rfl) ?_
  refine rcV (as := [.inl 0, .inl (q 6 5)]) (rest := []) dm_Re_claim_16 lc_Re_part lm_Re_66 li_Re_part (nr rfl rfl) rfl rfl rfl (nl rfl) (re_pa (s := s) (n := x0.2.1.length) hso (by omega) hs0 (by omega)) ?_
  rintro _ _ ⟨rfl, rfl⟩
  show rX E _ 19 [some (.inr (some E.1.length)), some (.inl 3), some (.inl t), some (.inl te), some (.inl (q 6 5))] [] _ _
  have ob28 := key.1 (by omega)
  have g66 := key.2.2.2
  have lkp := key.2.1
  have RP := Rl_fr hg hR fp lkp
  generalize paF (emL q x0.2.1) s x0.2.1.length = qp at fp ob28 g66 lkp RP ⊢
  have p1 : qp 6 1 = (M.2.2.1.length : Int) := RP.2.2.2.1
  have p4 : qp 6 4 = (M.2.2.2.2.2 : Int) := RP.2.2.2.2.2.2.2.2.2.1
  have p6 : qp 6 6 = 0 := g66
  refine rx (xs_iload_n dm_Re_claim_19 rfl) ?_
  refine rx (xs_iconst dm_Re_claim_20) ?_
  refine rx (xs_icmp_ne_t (tgt := 36) dm_Re_claim_21 rfl (by unfold ir; omega) (by unfold ir; omega) (by decide)) ?_
  refine rx (xs_aload_n dm_Re_claim_36 rfl) ?_
  refine rx (rg (v := .inl (qp 6 6)) dm_Re_claim_37 lf_Re_50 rfl) ?_
  refine rx (xs_if_ne_f (tgt := 60) dm_Re_claim_40 rfl (by unfold ir; omega) (by omega)) ?_
  refine rx (xs_aload_n dm_Re_claim_43 rfl) ?_
  refine rx (rg (v := .inl (qp 6 1)) dm_Re_claim_44 lf_Re_152 rfl) ?_
  refine rx (xs_iconst dm_Re_claim_47) ?_
  refine xx_icmp_eq (tgt := 60) dm_Re_claim_48 rfl (by unfold ir; omega) (by unfold ir; omega) (fun hc => ?_) (fun hc => ?_)
  · change rX E _ 60 _ _ _ _
    refine rx (xs_iconst dm_Re_claim_60) ?_
    exact rri dm_Re_claim_61 rfl ⟨vi (by rw [if_pos (Or.inl (by omega))]), by rw [if_pos (Or.inl (by omega))]; exact RP⟩
  · change rX E _ 51 _ _ _ _
    refine rx (xs_aload_n dm_Re_claim_51 rfl) ?_
    refine rx (rg (v := .inl (qp 6 4)) dm_Re_claim_52 lf_Re_76 rfl) ?_
    refine rx (xs_bipush dm_Re_claim_55 (by decide)) ?_
    refine xx_icmp_ne (tgt := 62) dm_Re_claim_57 rfl (by unfold ir; omega) (by unfold ir; omega) (fun hc2 => ?_) (fun hc2 => ?_)
    · change rX E _ 62 _ _ _ _
      rw [if_neg (by omega)]
      refine rx (xs_aload_n dm_Re_claim_62 rfl) ?_
      refine rx (xs_bipush dm_Re_claim_63 (by decide)) ?_
      refine rx (xs_bipush dm_Re_claim_65 (by decide)) ?_
      refine rx (xs_aload_n dm_Re_claim_67 rfl) ?_
      refine rx (rg (v := .inl (qp 6 1)) dm_Re_claim_68 lf_Re_152 rfl) ?_
      refine rx (xs_iadd dm_Re_claim_71) ?_
      refine rcV (as := [.inl 28, .inl (18 + qp 6 1)]) (rest := []) dm_Re_claim_72 lc_Re_copyObject lm_Re_82 li_Re_copyObject (nr rfl rfl) rfl rfl rfl (nl rfl) (re_copyObject (o := 28) (p := 18 + M.2.2.1.length) rfl (by omega) (by decide) (by omega) (by omega) lkp) ?_
      rintro _ qc ⟨rfl, hcp, lkc⟩
      show rX E _ 75 [some (.inr (some E.1.length)), some (.inl 3), some (.inl t), some (.inl te), some (.inl (q 6 5))] [] _ _
      refine rx (xs_aload_n dm_Re_claim_75 rfl) ?_
      refine rx (xs_dup dm_Re_claim_76) ?_
      refine rx (rg (v := .inl (qc 6 1)) dm_Re_claim_77 lf_Re_152 rfl) ?_
      refine rx (xs_iconst dm_Re_claim_80) ?_
      refine rx (xs_iadd dm_Re_claim_81) ?_
      refine rx (rp 1 (by decide) dm_Re_claim_82 lp_Re_152 (x_ft_i _)) ?_
      refine rx (xs_aload_n dm_Re_claim_85 rfl) ?_
      refine rx (xs_iconst dm_Re_claim_86) ?_
      have c1 : qc 6 1 = (M.2.2.1.length : Int) := by rw [hcp.2.2.2 _ _ (by unfold tch; omega)]; exact p1
      have g2 : ∀ a j, ¬ tch (18 + M.2.2.1.length) a j → ¬ (a = 6 ∧ j = 1) → (u3 qc 6 1 ((qc 6 1) + 1)) a j = qp a j := fun a j h1 h2 => by rw [u3_ne h2, hcp.2.2.2 a j h1]
      have e1 : (u3 qc 6 1 ((qc 6 1) + 1)) 6 1 = ((M.2.2.1.length + 1 : Nat) : Int) := by rw [u3_eq, c1]; simp
      have oN : rOb (u3 qc 6 1 ((qc 6 1) + 1)) (18 + M.2.2.1.length) (2, x0.2.1, []) := rOb_fr (rOb_cp ob28 hcp) (fun a j ht => u3_ne (by unfold tch at ht; omega))
      have lkn : lok (u3 qc 6 1 ((qc 6 1) + 1)) := lok_u6 lkc
      generalize u3 qc 6 1 ((qc 6 1) + 1) = qn at g2 e1 oN lkn ⊢
      have obk : ∀ (o : Nat) (y : oB), ¬ o = 18 + M.2.2.1.length → rOb qp o y → rOb qn o y := fun o y h1 hy => rOb_fr hy (fun a j ht => g2 a j (by unfold tch at ht ⊢; omega) (by unfold tch at ht; omega))
      have gN : gM (M.1, M.2.1, M.2.2.1 ++ [(2, x0.2.1, [])], M.2.2.2.1, M.2.2.2.2.1, M.2.2.2.2.2) := by
        obtain ⟨g1, g2', g3, g4, g5, _, _, _, _, _⟩ := hg
        refine ⟨g1, g2', fun y hy => ?_, g4, g5, g6, by simp; omega, g8, g9, g10⟩
        have hy' : y ∈ M.2.2.1 ++ [(2, x0.2.1, [])] := hy
        rcases List.mem_append.mp hy' with h | h
        · exact g3 y h
        · rw [List.mem_singleton] at h
          subst h
          exact Or.inr (Or.inr ⟨rfl, ht, wc0, by simp, trivial, by simp⟩)
      have RN : Rl qn (M.1, M.2.1, M.2.2.1 ++ [(2, x0.2.1, [])], M.2.2.2.1, M.2.2.2.2.1, M.2.2.2.2.2) := by
        obtain ⟨s1, s2, s3, s4, s5, s6, s7, s8, s9, s10, s11⟩ := RP
        refine ⟨by rw [g2 _ _ (by unfold tch; omega) (by omega)]; exact s1, fun i y hi => ?_, fun j hj => ⟨fun hn => ?_, fun y hy => ?_⟩, by rw [e1]; simp, fun i y hi => ?_, by rw [g2 _ _ (by unfold tch; omega) (by omega)]; exact s6, fun i y hi => ?_, by rw [g2 _ _ (by unfold tch; omega) (by omega)]; exact s8, fun i c hc9 => ?_, by rw [g2 _ _ (by unfold tch; omega) (by omega)]; exact s10, lkn⟩
        · have hil : i < M.1.length := (List.getElem?_eq_some_iff.mp hi).1
          show rOb qn (M.1.length - 1 - i) y
          exact obk _ _ (by omega) (s2 i y hi)
        · rw [g2 _ _ (by unfold tch; omega) (by omega)]
          exact (s3 j hj).1 hn
        · exact obk _ _ (by omega) ((s3 j hj).2 y hy)
        · have hi' : (M.2.2.1 ++ [(2, x0.2.1, [])])[i]? = some y := hi
          by_cases hil : i < M.2.2.1.length
          · rw [List.getElem?_append_left hil] at hi'
            exact obk _ _ (by omega) (s5 i y hi')
          · have hi9 := (List.getElem?_eq_some_iff.mp hi').1
            simp at hi9
            have hie : i = M.2.2.1.length := by omega
            subst hie
            simp at hi'
            subst hi'
            exact oN
        · have hil : i < M.2.2.2.1.length := (List.getElem?_eq_some_iff.mp hi).1
          exact obk _ _ (by omega) (s7 i y hi)
        · have hil : i < M.2.2.2.2.1.length := (List.getElem?_eq_some_iff.mp hc9).1
          have hcl := (hg.2.2.2.2.1 c (List.mem_of_getElem? hc9)).2
          obtain ⟨c1, c2⟩ := s9 i c hc9
          exact ⟨by rw [g2 _ _ (by unfold tch; omega) (by omega)]; exact c1, sg_mono c2 (fun j j1 j2 => g2 0 j (by unfold tch; omega) (by omega))⟩
      have h120 : ¬ M.2.2.2.2.2 = 120 := by omega
      refine rcV (as := [.inl 1]) (rest := []) dm_Re_claim_87 lc_Re_done lm_Re_91 li_Re_done (nr rfl rfl) rfl rfl rfl (nl rfl) (re_done (M := (M.1, M.2.1, M.2.2.1 ++ [(2, x0.2.1, [])], M.2.2.2.1, M.2.2.2.2.1, M.2.2.2.2.2)) (n := 1) (x := (2, x0.2.1, [])) (b := false) gN RN rfl (by show 1 ≤ M.1.length; omega) (by show M.1.length - 1 < 12; omega) (by rw [g2 _ _ (by unfold tch; omega) (by omega)]; exact p6) (fun _ => obk _ _ (by omega) ob28)) ?_
      rintro _ q9 ⟨rfl, hR9⟩
      show rX E _ 90 [some (.inr (some E.1.length)), some (.inl 3), some (.inl t), some (.inl te), some (.inl (q 6 5))] [.inl (fi (M.1, M.2.1, M.2.2.1 ++ [(2, x0.2.1, [])], M.2.2.2.1, M.2.2.2.2.1, M.2.2.2.2.2) 1 (2, x0.2.1, []) false).1] _ _
      rw [fi_g (M := (M.1, M.2.1, M.2.2.1 ++ [(2, x0.2.1, [])], M.2.2.2.1, M.2.2.2.2.1, M.2.2.2.2.2)) rfl (by show ¬ M.2.2.2.2.2 = 120; exact h120)] at hR9 ⊢
      exact rri dm_Re_claim_90 rfl ⟨rfl, hR9⟩
    · change rX E _ 60 _ _ _ _
      refine rx (xs_iconst dm_Re_claim_60) ?_
      exact rri dm_Re_claim_61 rfl ⟨vi (by rw [if_pos (Or.inr (by omega))]), by rw [if_pos (Or.inr (by omega))]; exact RP⟩
