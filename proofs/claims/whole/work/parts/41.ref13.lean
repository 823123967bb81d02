/-! the reference's commands, by the machine's step -/
theorem fi_b {M : mS} {n : Nat} {x : oB} {b : Bool} (h : b = true ∨ M.2.2.2.2.2 = 120) : fi M n x b = (4, M) := by unfold fi; rw [if_pos h]
theorem fi_g {M : mS} {n : Nat} {x : oB} {b : Bool} (h : b = false) (h2 : ¬ M.2.2.2.2.2 = 120) : fi M n x b = (0, pu M n x) := by unfold fi; rw [if_neg (by rw [h]; simp [h2])]
theorem re_done {q : rS} {M : mS} {n : Nat} {nn : Int} {x : oB} {b : Bool} (hg : gM M) (hR : Rl q M) (hnn : nn = n) (hn : n ≤ M.1.length) (hsz : M.1.length - n < 12) (hb : q 6 6 = bI b) (hx : b = false → rOb q 28 x) : rM mm_Re_done [.inl nn] q (fun r q' => r = some (.inl (fi M n x b).1) ∧ Rl q' (fi M n x b).2) := by
  have r1 := hR.1
  have r10 : q 6 4 = (M.2.2.2.2.2 : Int) := hR.2.2.2.2.2.2.2.2.2.1
  have hc := hg.2.2.2.2.2.2.2.2.2
  by_cases h : b = true ∨ M.2.2.2.2.2 = 120
  · rw [fi_b h]
    have hk : q 6 6 = 1 ∨ q 6 4 = 120 := by
      rcases h with h | h
      · left; rw [hb, h]; rfl
      · right; rw [r10, h]; rfl
    intro E
    obtain ⟨r, hf, hm, q', e, hq⟩ := re_done4 (q := q) (n := nn) (by rw [hb]; cases b <;> simp [bI]) (by rw [r10]; omega) hk E
    exact ⟨r, hf, hm, q', e, hq.1, by rw [hq.2]; exact hR⟩
  · have hb0 : b = false := by cases b; · rfl
                               · exact absurd (Or.inl rfl) h
    have hc2 : ¬ M.2.2.2.2.2 = 120 := fun e => h (Or.inr e)
    rw [fi_g hb0 hc2]
    intro E
    obtain ⟨r, hf, hm, q', e, h1, h2, h3, h4, h5, h6⟩ := re_done0 (q := q) (n := nn) (p := M.1.length - n) (by rw [hb, hb0]; rfl) (by rw [r10]; omega) (by rw [r1]; omega) hsz hR.2.2.2.2.2.2.2.2.2.2 E
    exact ⟨r, hf, hm, q', e, h1, Rl_done hg hR hn rfl hsz (h2 x (hx hb0)) h3 h4 h5 h6⟩
/-- the object that is being made gets its main row -/
def paF (q : rS) (s n : Nat) : rS := u3 (cpF (bigU q n) (4480 + 40 * 0) s (min n 40)) 1 (112 + 0) (min n 40 : Nat)
theorem pa_fr {q : rS} {s n a k : Nat} (h1 : ¬ (a = 1 ∧ k = 112)) (h2 : ¬ (a = 0 ∧ 4480 ≤ k ∧ k < 4520)) (h3 : ¬ (a = 6 ∧ k = 6)) : (paF q s n) a k = q a k := by
  unfold paF
  rw [u3_ne (by omega), cpF_out (by omega)]
  unfold bigU
  split
  · exact u3_ne h3
  · rfl
theorem pa_ok {q : rS} {s : Nat} {l : List Int} {k : Int} {hs : List (List Int)} (hl : sg q s l) (hk : q 2 28 = k) (hy : hyR q 28 hs) (hlk : lok q) : (l.length ≤ 40 → rOb (paF q s l.length) 28 (k, l, hs)) ∧ lok (paF q s l.length) ∧ (paF q s l.length) 6 6 = (if 40 < l.length then 1 else q 6 6) := by
  refine ⟨fun h40 => ⟨?_, ⟨?_, ?_, h40⟩, ?_⟩, ?_, ?_⟩
  · rw [pa_fr (by omega) (by omega) (by omega)]; exact hk
  · show (paF q s l.length) 1 (4 * 28 + 0) = _
    unfold paF
    rw [u3_eq, Nat.min_eq_left h40]
  · intro i x hx
    have hi : i < l.length := (List.getElem?_eq_some_iff.mp hx).1
    unfold paF
    rw [show 160 * 28 + 40 * 0 + i = 4480 + 40 * 0 + i by omega, u3_ne (by omega), cpF_in (by omega)]
    unfold bigU
    rw [if_neg (by omega)]
    exact hl i x hx
  · obtain ⟨y1, y2, y3⟩ := hy
    refine ⟨by rw [pa_fr (by omega) (by omega) (by omega)]; exact y1, y2, fun i h hh => ?_⟩
    obtain ⟨a1, a2, a3⟩ := y3 i h hh
    have := (List.getElem?_eq_some_iff.mp hh).1
    exact ⟨by rw [pa_fr (by omega) (by omega) (by omega)]; exact a1, sg_mono a2 (fun k k1 k2 => pa_fr (by omega) (by omega) (by omega)), a3⟩
  · intro k hk2
    by_cases e : k = 112
    · subst e
      unfold paF
      rw [u3_eq]
      omega
    · rw [pa_fr (by omega) (by omega) (by omega)]; exact hlk k hk2
  · unfold paF
    rw [u3_ne (by omega), cpF_out (by omega)]
    unfold bigU
    split
    · exact u3_eq _ _ _ _
    · rfl
theorem re_pa {q : rS} {ss : Int} {s n : Nat} (hs : ss = s) (ho : q 6 5 = (s : Int) + (n : Int)) (hs0 : 5200 ≤ s) (hs1 : s + n ≤ 10000) : rM mm_Re_part [.inl 0, .inl ss] q (fun r q' => r = none ∧ q' = paF q s n) := re_part (i := 0) hs rfl (by decide) ho hs0 hs1
theorem hy0 {q : rS} (h : q 3 28 = 0) : hyR q 28 [] := ⟨by rw [h]; rfl, by simp, fun i x hx => by simp at hx⟩
/-- begin, with the kind -/
def bgk (q : rS) (k : Int) : rS := u3 (bg q) 2 28 k
theorem bg_5 (q : rS) : (bg q) 6 5 = 5200 := by simp [bg, u3]
theorem bg_6 (q : rS) : (bg q) 6 6 = 0 := by simp [bg, u3]
theorem bg_3 (q : rS) : (bg q) 3 28 = 0 := by simp [bg, u3]
theorem bg_2 (q : rS) : (bg q) 2 28 = 2 := by simp [bg, u3]
theorem bgk_5 (q : rS) (k : Int) : (bgk q k) 6 5 = 5200 := by simp [bgk, bg, u3]
theorem bgk_6 (q : rS) (k : Int) : (bgk q k) 6 6 = 0 := by simp [bgk, bg, u3]
theorem bgk_3 (q : rS) (k : Int) : (bgk q k) 3 28 = 0 := by simp [bgk, bg, u3]
theorem bgk_2 (q : rS) (k : Int) : (bgk q k) 2 28 = k := by simp [bgk, u3]
theorem frM_bgk (q : rS) (k : Int) : frM q (bgk q k) := frM_tr (frM_bg q) (frM_28 (by unfold tch; omega))
theorem lok_fr {q q' : rS} (h : lok q) (hf : ∀ k, k < 120 → q' 1 k = q 1 k) : lok q' := fun k hk => by rw [hf k hk]; exact h k hk
theorem lok_bgk {q : rS} (k : Int) (h : lok q) : lok (bgk q k) := lok_fr h (fun j hj => by simp [bgk, bg, u3])
theorem lok_bg {q : rS} (h : lok q) : lok (bg q) := lok_fr h (fun j hj => by simp [bg, u3])
theorem lok_emL {q : rS} {l : List Int} (h : lok q) : lok (emL q l) := lok_fr h (fun j hj => emL_a (by omega) (by omega))
theorem lok_wb {q : rS} {B : Nat → Int} (h : lok q) : lok (wb q B) := lok_fr h (fun j hj => rfl)
theorem lok_u6 {q : rS} {j : Nat} {x : Int} (h : lok q) : lok (u3 q 6 j x) := lok_fr h (fun k hk => u3_ne (by omega))
theorem emL_h {q : rS} {l : List Int} {hs : List (List Int)} (ho : 5200 ≤ q 6 5) (h : hyR q 28 hs) : hyR (emL q l) 28 hs := hyR_fr h (fun a k ht => by
  by_cases ha : a = 0
  · subst ha; exact emL_lo (by omega) (by unfold tch at ht; omega)
  · exact emL_a ha (by unfold tch at ht; omega))
/-! the steps -/
def st_type (M : mS) (k : Int) : Int × mS := if k < -1 ∨ 4 < k then (2, M) else if k = 4 then (if kd M 0 = 0 ∧ kd M 1 = 0 then (if 15 < (0 :: (mn M 1 ++ mn M 0)).length then (4, M) else fi M 2 (0, 0 :: (mn M 1 ++ mn M 0), []) false) else (1, M)) else if M.1.length = 12 then (4, M) else fi M 0 (0, [k + 2], []) false
def st_leaf (M : mS) (h n : Int) : Int × mS := fi M 1 (1, h :: n :: mn M 0, []) (decide (40 < (h :: n :: mn M 0).length))
def st_var (M : mS) (n : Int) : Int × mS := if ¬ kd M 0 = 0 then (1, M) else if n < 0 ∨ 7 < n then (2, M) else st_leaf M 10 n
def cT (M : mS) (c : Int) : List Int := M.2.2.2.2.1.getD (c.toNat - 1) []
def st_const (M : mS) (c : Int) : Int × mS := if c = 0 then (if ¬ kd M 0 = 0 then (1, M) else st_leaf M 11 0) else if c < 0 ∨ (M.2.2.2.2.1.length : Int) < c then (2, M) else if M.1.length = 12 then (4, M) else fi M 0 (1, 11 :: c :: cT M c, []) (decide (40 < (11 :: c :: cT M c).length))
set_option maxHeartbeats 4000000 in
set_option maxRecDepth 100000 in
theorem re_leaf {q : rS} {M : mS} {h n : Int} (hg : gM M) (hR : Rl q M) (h0 : kd M 0 = 0) : rM mm_Re_leaf [.inl h, .inl n] q (fun r q' => r = some (.inl (st_leaf M h n).1) ∧ Rl q' (st_leaf M h n).2) := by
  refine rm rfl (nl rfl) (fun E => ?_)
  obtain ⟨x, hx, k1, k2, k3⟩ := kd_some (M := M) (i := 0) (by rw [h0]; decide)
  obtain ⟨w1, w2, w3⟩ := Rl_row hR hx
  have hx0 := gO_0 (gM_top hg hx) (k1.symm.trans h0)
  have hlt := (List.getElem?_eq_some_iff.mp hx).1
  have g6 := hg.2.2.2.2.2.1
  have r1 := hR.1
  have hlk := hR.2.2.2.2.2.2.2.2.2.2
  show rX E _ 0 [some (.inr (some E.1.length)), some (.inl h), some (.inl n)] [] _ _
  refine rx (xs_aload_n dm_Re_leaf_0 rfl) ?_
  refine rcV (as := []) (rest := []) dm_Re_leaf_1 lc_Re_begin lm_Re_88 li_Re_begin (nr rfl rfl) rfl rfl rfl (nl rfl) (re_begin) ?_
  rintro _ _ ⟨rfl, rfl⟩
  show rX E _ 4 [some (.inr (some E.1.length)), some (.inl h), some (.inl n)] [] _ _
  refine rx (xs_aload_n dm_Re_leaf_4 rfl) ?_
  refine rx (rg (v := .inr (some (rA E 2))) dm_Re_leaf_5 lf_Re_16 rfl) ?_
  refine rx (xs_bipush dm_Re_leaf_8 (by decide)) ?_
  refine rx (xs_iconst dm_Re_leaf_10) ?_
  refine rx (rtn 2 28 (by decide) dm_Re_leaf_11 (by omega) (by show _ < ((30 : Nat) : Int); omega) rfl) ?_
  refine rx (xs_aload_n dm_Re_leaf_12 rfl) ?_
  refine rx (xs_iload_n dm_Re_leaf_13 rfl) ?_
  change rX E _ _ _ _ (bgk q 1) _
  have b5 := bgk_5 q 1
  have fb := frM_bgk q 1
  have o1 := em_out (bgk q 1) h
  have o2 := em_out (em (bgk q 1) h) n
  have f2 : frM (bgk q 1) (em (em (bgk q 1) h) n) := frM_emL (l := [h, n]) (by omega)
  have fA := frM_tr fb f2
  have s0 : (em (em (bgk q 1) h) n) 6 0 = (M.1.length : Int) := by rw [fA 6 0 (by unfold tch; omega) (by omega) (by omega) (by omega)]; exact r1
  refine rcV (as := [.inl h]) (rest := []) dm_Re_leaf_14 lc_Re_emit lm_Re_32 li_Re_emit (nr rfl rfl) rfl rfl rfl (nl rfl) (re_emit (x := h) (by omega) (by omega)) ?_
  rintro _ _ ⟨rfl, rfl⟩
  show rX E _ 17 [some (.inr (some E.1.length)), some (.inl h), some (.inl n)] [] _ _
  refine rx (xs_aload_n dm_Re_leaf_17 rfl) ?_
  refine rx (xs_iload_n dm_Re_leaf_18 rfl) ?_
  refine rcV (as := [.inl n]) (rest := []) dm_Re_leaf_19 lc_Re_emit lm_Re_32 li_Re_emit (nr rfl rfl) rfl rfl rfl (nl rfl) (re_emit (x := n) (by omega) (by omega)) ?_
  rintro _ _ ⟨rfl, rfl⟩
  show rX E _ 22 [some (.inr (some E.1.length)), some (.inl h), some (.inl n)] [] _ _
  refine rx (xs_aload_n dm_Re_leaf_22 rfl) ?_
  refine rx (xs_aload_n dm_Re_leaf_23 rfl) ?_
  refine rx (xs_iconst dm_Re_leaf_24) ?_
  generalize hQ2 : em (em (bgk q 1) h) n = q2 at o2 f2 fA s0 ⊢
  have hrow := frM_sg fA w2 (by omega)
  have hlen : q2 1 (4 * (M.1.length - 1 - 0)) = (x.2.1.length : Int) := by rw [fA 1 _ (by unfold tch; omega) (by omega) (by omega) (by omega)]; exact w1
  refine rcV (as := [.inl 0]) (rest := [.inr (some E.1.length)]) dm_Re_leaf_25 lc_Re_rowOf lm_Re_94 li_Re_rowOf (nr rfl rfl) rfl rfl rfl (nl rfl) (re_rowOf) ?_
  rintro _ q1 ⟨rfl, hq1⟩
  have hq1 := hq1.symm
  subst hq1
  show rX E _ 28 [some (.inr (some E.1.length)), some (.inl h), some (.inl n)] [.inl (160 * (q2 6 0 - 1 - 0) + 40 * 0), .inr (some E.1.length)] _ _
  refine rx (xs_aload_n dm_Re_leaf_28 rfl) ?_
  refine rx (xs_iconst dm_Re_leaf_29) ?_
  refine rcV (as := [.inl 0]) (rest := [.inl (160 * (q2 6 0 - 1 - 0) + 40 * 0), .inr (some E.1.length)]) dm_Re_leaf_30 lc_Re_rowEnd lm_Re_97 li_Re_rowEnd (nr rfl rfl) rfl rfl rfl (nl rfl) (re_rowEnd (by rw [s0]; omega) (by rw [s0]; omega)) ?_
  rintro _ q1 ⟨rfl, hq1⟩
  have hq1 := hq1.symm
  subst hq1
  show rX E _ 33 [some (.inr (some E.1.length)), some (.inl h), some (.inl n)] [.inl (160 * (q2 6 0 - 1 - 0) + 40 * 0 + q2 1 (4 * (q2 6 0 - 1 - 0)).toNat), .inl (160 * (q2 6 0 - 1 - 0) + 40 * 0), .inr (some E.1.length)] _ _
  have e1 : q2 1 (4 * (q2 6 0 - 1 - 0)).toNat = (x.2.1.length : Int) := by rw [← hlen]; congr 1; omega
  have o3 := emL_out q2 x.2.1
  refine rcV (as := [.inl (160 * (q2 6 0 - 1 - 0) + 40 * 0), .inl (160 * (q2 6 0 - 1 - 0) + 40 * 0 + q2 1 (4 * (q2 6 0 - 1 - 0)).toNat)]) (rest := []) dm_Re_leaf_33 lc_Re_emitRow lm_Re_43 li_Re_emitRow (nr rfl rfl) rfl rfl rfl (nl rfl) (re_emitRow (p := 160 * (M.1.length - 1 - 0)) (l := x.2.1) hrow (by omega) (by omega) (by omega) (by omega)) ?_
  rintro _ _ ⟨rfl, rfl⟩
  show rX E _ 36 [some (.inr (some E.1.length)), some (.inl h), some (.inl n)] [] _ _
  refine rx (xs_aload_n dm_Re_leaf_36 rfl) ?_
  refine rx (xs_iconst dm_Re_leaf_37) ?_
  refine rx (xs_sipush dm_Re_leaf_38 (by decide)) ?_
  refine rcV (as := [.inl 0, .inl 5200]) (rest := []) dm_Re_leaf_41 lc_Re_part lm_Re_66 li_Re_part (nr rfl rfl) rfl rfl rfl (nl rfl) (re_pa (s := 5200) (n := (h :: n :: x.2.1).length) rfl (by simp; omega) (by decide) (by simp; omega)) ?_
  rintro _ _ ⟨rfl, rfl⟩
  show rX E _ 44 [some (.inr (some E.1.length)), some (.inl h), some (.inl n)] [] _ _
  refine rx (xs_aload_n dm_Re_leaf_44 rfl) ?_
  refine rx (xs_iconst dm_Re_leaf_45) ?_
  have hall : emL q2 x.2.1 = emL (bgk q 1) (h :: n :: x.2.1) := by rw [← hQ2]; rfl
  have fall : frM q (emL (bgk q 1) (h :: n :: x.2.1)) := frM_tr fb (frM_emL (by omega))
  have key := pa_ok (q := emL (bgk q 1) (h :: n :: x.2.1)) (s := 5200) (l := h :: n :: x.2.1) (k := 1) (hs := []) (emL_sg (by omega) (by rw [b5]; rfl)) (by rw [emL_a (by omega) (by omega)]; exact bgk_2 q 1) (emL_h (by omega) (hy0 (bgk_3 q 1))) (lok_emL (lok_bgk 1 hlk))
  rw [emL_s (by omega), bgk_6] at key
  rw [hall]
  have fpa : frM q (paF (emL (bgk q 1) (h :: n :: x.2.1)) 5200 (h :: n :: x.2.1).length) := frM_tr fall (frM_part (by decide))
  refine rcV (as := [.inl 1]) (rest := []) dm_Re_leaf_46 lc_Re_done lm_Re_91 li_Re_done (nr rfl rfl) rfl rfl rfl (nl rfl) (re_done (n := 1) (x := (1, h :: n :: x.2.1, [])) (b := decide (40 < (h :: n :: x.2.1).length)) hg (Rl_fr hg hR fpa key.2.1) rfl (by omega) (by omega) (by rw [key.2.2]; by_cases hh : 40 < (h :: n :: x.2.1).length <;> simp [hh, bI]) (fun hh => key.1 (by simpa using hh))) ?_
  rintro _ q9 ⟨rfl, hR9⟩
  have hst : st_leaf M h n = fi M 1 (1, h :: n :: x.2.1, []) (decide (40 < (h :: n :: x.2.1).length)) := by unfold st_leaf; rw [k2]
  rw [hst]
  show rX E _ 49 [some (.inr (some E.1.length)), some (.inl h), some (.inl n)] [.inl (fi M 1 (1, h :: n :: x.2.1, []) (decide (40 < (h :: n :: x.2.1).length))).1] _ _
  exact rri dm_Re_leaf_49 rfl ⟨rfl, hR9⟩
set_option maxHeartbeats 4000000 in
set_option maxRecDepth 100000 in
theorem re_var {q : rS} {M : mS} {n : Int} (hg : gM M) (hR : Rl q M) (hn : ir n) : rM mm_Re_var [.inl n] q (fun r q' => r = some (.inl (st_var M n).1) ∧ Rl q' (st_var M n).2) := by
  refine rm rfl (nl rfl) (fun E => ?_)
  have g6 := hg.2.2.2.2.2.1
  have r1 := hR.1
  have t0 := Rl_tp hg hR 0
  have i0 := (kd_ir hg 0).1
  show rX E _ 0 [some (.inr (some E.1.length)), some (.inl n)] [] _ _
  refine rx (xs_aload_n dm_Re_var_0 rfl) ?_
  refine rx (xs_iconst dm_Re_var_1) ?_
  refine rcV (as := [.inl 0]) (rest := []) dm_Re_var_2 lc_Re_top lm_Re_85 li_Re_top (nr rfl rfl) rfl rfl rfl (nl rfl) (re_top (i := 0) (by omega) (by omega) (by omega) (by omega)) ?_
  rintro _ q1 ⟨rfl, hq1⟩
  have hq1 := hq1.symm
  subst hq1
  show rX E _ 5 [some (.inr (some E.1.length)), some (.inl n)] [.inl (tp q 0)] _ _
  rw [show tp q 0 = kd M 0 from t0]
  refine xx_if_eq (tgt := 10) dm_Re_var_5 rfl i0 (fun hc => ?_) (fun hc => ?_)
  · change rX E _ 10 _ _ _ _
    refine rx (xs_iload_n dm_Re_var_10 rfl) ?_
    refine xx_if_lt (tgt := 20) dm_Re_var_11 rfl hn (fun hc2 => ?_) (fun hc2 => ?_)
    · change rX E _ 20 _ _ _ _
      refine rx (xs_iconst dm_Re_var_20) ?_
      refine rx (xs_goto (tgt := 31) dm_Re_var_21 rfl) ?_
      exact rri dm_Re_var_31 rfl ⟨vi (by rw [st_var, if_neg (fun h => h hc), if_pos (Or.inl hc2)]), by rw [st_var, if_neg (fun h => h hc), if_pos (Or.inl hc2)]; exact hR⟩
    · change rX E _ 14 _ _ _ _
      refine rx (xs_iload_n dm_Re_var_14 rfl) ?_
      refine rx (xs_bipush dm_Re_var_15 (by decide)) ?_
      refine xx_icmp_le (tgt := 24) dm_Re_var_17 rfl hn (by unfold ir; omega) (fun hc3 => ?_) (fun hc3 => ?_)
      · change rX E _ 24 _ _ _ _
        refine rx (xs_aload_n dm_Re_var_24 rfl) ?_
        refine rx (xs_bipush dm_Re_var_25 (by decide)) ?_
        refine rx (xs_iload_n dm_Re_var_27 rfl) ?_
        refine rcV (as := [.inl 10, .inl n]) (rest := []) dm_Re_var_28 lc_Re_leaf lm_Re_100 li_Re_leaf (nr rfl rfl) rfl rfl rfl (nl rfl) (re_leaf hg hR hc) ?_
        rintro _ q9 ⟨rfl, hR9⟩
        show rX E _ 31 [some (.inr (some E.1.length)), some (.inl n)] [.inl (st_leaf M 10 n).1] _ _
        have hst : st_var M n = st_leaf M 10 n := by rw [st_var, if_neg (fun h => h hc), if_neg (by omega)]
        rw [hst]
        exact rri dm_Re_var_31 rfl ⟨rfl, hR9⟩
      · change rX E _ 20 _ _ _ _
        refine rx (xs_iconst dm_Re_var_20) ?_
        refine rx (xs_goto (tgt := 31) dm_Re_var_21 rfl) ?_
        exact rri dm_Re_var_31 rfl ⟨vi (by rw [st_var, if_neg (fun h => h hc), if_pos (Or.inr (by omega))]), by rw [st_var, if_neg (fun h => h hc), if_pos (Or.inr (by omega))]; exact hR⟩
  · change rX E _ 8 _ _ _ _
    refine rx (xs_iconst dm_Re_var_8) ?_
    exact rri dm_Re_var_9 rfl ⟨vi (by rw [st_var, if_pos hc]), by rw [st_var, if_pos hc]; exact hR⟩
