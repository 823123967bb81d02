/-! keep, fetch, pop, export, and the questions -/
def dup1 (f : Nat → Option oB) (k : Nat) (x : oB) : Nat → Option oB := fun j => if j = k then some x else f j
def st_keep (M : mS) (k : Int) : Int × mS := if M.1.length = 0 then (1, M) else if k < 0 ∨ 5 < k then (2, M) else if M.2.2.2.2.2 = 120 then (4, M) else (0, M.1, dup1 M.2.1 k.toNat (M.1.headD (0, [], [])), M.2.2.1, M.2.2.2.1, M.2.2.2.2.1, M.2.2.2.2.2 + 1)
def st_fetch (M : mS) (k : Int) : Int × mS := if k < 0 ∨ 5 < k then (2, M) else match M.2.1 k.toNat with
  | none => (2, M)
  | some x => if M.1.length = 12 ∨ M.2.2.2.2.2 = 120 then (4, M) else (0, pu M 0 x)
def st_pop (M : mS) : Int × mS := if M.1.length = 0 then (1, M) else if M.2.2.2.2.2 = 120 then (4, M) else (0, M.1.drop 1, M.2.1, M.2.2.1, M.2.2.2.1, M.2.2.2.2.1, M.2.2.2.2.2 + 1)
def st_export (M : mS) : Int × mS := if ¬ kd M 0 = 2 then (1, M) else if M.2.2.2.1.length = 5 ∨ M.2.2.2.2.2 = 120 then (4, M) else (0, M.1.drop 1, M.2.1, M.2.2.1, M.2.2.2.1 ++ [M.1.headD (0, [], [])], M.2.2.2.2.1, M.2.2.2.2.2 + 1)
def st_count (M : mS) (l : Int) : Int := if l = 0 then M.1.length else if l = 1 then M.2.2.1.length else if l = 2 then M.2.2.2.1.length else if l = 3 then M.2.2.2.2.1.length else if l = 4 then M.2.2.2.2.2 else -1
/-- the object at a place -/
def ob (M : mS) (p : Int) : Option oB := if 0 ≤ p ∧ p < 100 then M.1[p.toNat]? else if 100 ≤ p ∧ p < 106 then M.2.1 (p.toNat - 100) else if 200 ≤ p ∧ p < 300 then M.2.2.1[p.toNat - 200]? else if 300 ≤ p then M.2.2.2.1[p.toNat - 300]? else none
def st_kind (M : mS) (p : Int) : Int := match ob M p with
  | none => -1
  | some x => x.1
def st_hyps (M : mS) (p : Int) : Int := match ob M p with
  | none => -1
  | some x => if x.1 = 2 then x.2.2.length else -1
def rowI (x : oB) (i : Int) : Option (List Int) := if i = 0 then some x.2.1 else if i < 0 then none else x.2.2[i.toNat - 1]?
def prt (M : mS) (p i : Int) : Option (List Int) := match ob M p with
  | none => none
  | some x => rowI x i
def st_length (M : mS) (p i : Int) : Int := match prt M p i with
  | none => -1
  | some l => l.length
def st_symbol (M : mS) (p i j : Int) : Int := match prt M p i with
  | none => -1
  | some l => if j < 0 ∨ (l.length : Int) ≤ j then -1 else l.getD j.toNat 0
theorem hd_top {M : mS} {x : oB} (h : M.1[0]? = some x) : M.1.headD (0, [], []) = x := by
  cases hM : M.1 with
  | nil => rw [hM] at h; simp at h
  | cons y l => rw [hM] at h; simp at h; subst h; rfl
set_option maxHeartbeats 4000000 in
set_option maxRecDepth 100000 in
theorem re_keep {q : rS} {M : mS} {k : Int} (hg : gM M) (hR : Rl q M) (hk : ir k) : rM mm_Re_keep [.inl k] q (fun r q' => r = some (.inl (st_keep M k).1) ∧ Rl q' (st_keep M k).2) := by
  refine rm rfl (nl rfl) (fun E => ?_)
  have g6 := hg.2.2.2.2.2.1
  have g7 := hg.2.2.2.2.2.2.1
  have g8 := hg.2.2.2.2.2.2.2.1
  have g9 := hg.2.2.2.2.2.2.2.2.1
  have g10 := hg.2.2.2.2.2.2.2.2.2
  have r1 := hR.1
  have r4 : q 6 1 = (M.2.2.1.length : Int) := hR.2.2.2.1
  have r6 : q 6 2 = (M.2.2.2.1.length : Int) := hR.2.2.2.2.2.1
  have r8 : q 6 3 = (M.2.2.2.2.1.length : Int) := hR.2.2.2.2.2.2.2.1
  have r10 : q 6 4 = (M.2.2.2.2.2 : Int) := hR.2.2.2.2.2.2.2.2.2.1
  have hlk := hR.2.2.2.2.2.2.2.2.2.2
  show rX E _ 0 [some (.inr (some E.1.length)), some (.inl k)] [] _ _
  refine rx (xs_aload_n dm_Re_keep_0 rfl) ?_
  refine rx (rg (v := .inl (q 6 0)) dm_Re_keep_1 lf_Re_79 rfl) ?_
  refine xx_if_ne (tgt := 9) dm_Re_keep_4 rfl (by unfold ir; omega) (fun hc => ?_) (fun hc => ?_)
  · change rX E _ 9 _ _ _ _
    have hne : ¬ M.1.length = 0 := by omega
    refine rx (xs_iload_n dm_Re_keep_9 rfl) ?_
    refine xx_if_lt (tgt := 18) dm_Re_keep_10 rfl hk (fun hc2 => ?_) (fun hc2 => ?_)
    · change rX E _ 18 _ _ _ _
      refine rx (xs_iconst dm_Re_keep_18) ?_
      exact rri dm_Re_keep_19 rfl ⟨vi (by rw [st_keep, if_neg hne, if_pos (Or.inl hc2)]), by rw [st_keep, if_neg hne, if_pos (Or.inl hc2)]; exact hR⟩
    · change rX E _ 13 _ _ _ _
      refine rx (xs_iload_n dm_Re_keep_13 rfl) ?_
      refine rx (xs_iconst dm_Re_keep_14) ?_
      refine xx_icmp_le (tgt := 20) dm_Re_keep_15 rfl hk (by unfold ir; omega) (fun hc3 => ?_) (fun hc3 => ?_)
      · change rX E _ 20 _ _ _ _
        have hr : ¬ (k < 0 ∨ 5 < k) := by omega
        refine rx (xs_aload_n dm_Re_keep_20 rfl) ?_
        refine rx (rg (v := .inl (q 6 4)) dm_Re_keep_21 lf_Re_76 rfl) ?_
        refine rx (xs_bipush dm_Re_keep_24 (by decide)) ?_
        refine xx_icmp_ne (tgt := 31) dm_Re_keep_26 rfl (by unfold ir; omega) (by unfold ir; omega) (fun hc4 => ?_) (fun hc4 => ?_)
        · change rX E _ 31 _ _ _ _
          obtain ⟨x, hx⟩ : ∃ x, M.1[0]? = some x := ⟨_, List.getElem?_eq_getElem (by omega)⟩
          obtain ⟨kn, hkn⟩ : ∃ kn : Nat, k = kn := ⟨k.toNat, by omega⟩
          have hst : st_keep M k = (0, M.1, dup1 M.2.1 kn x, M.2.2.1, M.2.2.2.1, M.2.2.2.2.1, M.2.2.2.2.2 + 1) := by rw [st_keep, if_neg hne, if_neg hr, if_neg (by omega), hd_top hx, hkn]; rfl
          refine rx (xs_aload_n dm_Re_keep_31 rfl) ?_
          refine rx (xs_dup dm_Re_keep_32) ?_
          refine rx (rg (v := .inl (q 6 4)) dm_Re_keep_33 lf_Re_76 rfl) ?_
          refine rx (xs_iconst dm_Re_keep_36) ?_
          refine rx (xs_iadd dm_Re_keep_37) ?_
          refine rx (rp 4 (by decide) dm_Re_keep_38 lp_Re_76 (x_ft_i _)) ?_
          refine rx (xs_aload_n dm_Re_keep_41 rfl) ?_
          refine rx (xs_aload_n dm_Re_keep_42 rfl) ?_
          refine rx (rg (v := .inl ((u3 q 6 4 ((q 6 4) + 1)) 6 0)) dm_Re_keep_43 lf_Re_79 rfl) ?_
          refine rx (xs_iconst dm_Re_keep_46) ?_
          refine rx (xs_isub dm_Re_keep_47) ?_
          refine rx (xs_bipush dm_Re_keep_48 (by decide)) ?_
          refine rx (xs_iload_n dm_Re_keep_50 rfl) ?_
          refine rx (xs_iadd dm_Re_keep_51) ?_
          have g1 : ∀ a j, ¬ (a = 6 ∧ j = 4) → (u3 q 6 4 ((q 6 4) + 1)) a j = q a j := fun a j h => u3_ne h
          have e4 : (u3 q 6 4 ((q 6 4) + 1)) 6 4 = q 6 4 + 1 := u3_eq _ _ _ _
          generalize u3 q 6 4 ((q 6 4) + 1) = q1 at g1 e4 ⊢
          have e0 : q1 6 0 = (M.1.length : Int) := by rw [g1 _ _ (by omega)]; exact r1
          refine rcV (as := [.inl (q1 6 0 - 1), .inl (12 + k)]) (rest := []) dm_Re_keep_52 lc_Re_copyObject lm_Re_82 li_Re_copyObject (nr rfl rfl) rfl rfl rfl (nl rfl) (re_copyObject (o := M.1.length - 1) (p := 12 + kn) (by omega) (by omega) (by omega) (by omega) (by omega) (lok_fr hlk (fun j hj => g1 _ _ (by omega)))) ?_
          rintro _ q2 ⟨rfl, hcp, lk2⟩
          show rX E _ 55 [some (.inr (some E.1.length)), some (.inl k)] [] _ _
          have g2 : ∀ a j, ¬ tch (12 + kn) a j → ¬ (a = 6 ∧ j = 4) → q2 a j = q a j := fun a j h1 h2 => by rw [hcp.2.2.2 a j h1, g1 a j h2]
          have obk : ∀ (o : Nat) (y : oB), ¬ o = 12 + kn → rOb q o y → rOb q2 o y := fun o y h1 hy => rOb_fr hy (fun a j ht => g2 a j (by unfold tch at ht ⊢; omega) (by unfold tch at ht; omega))
          rw [hst]
          refine rx (xs_iconst dm_Re_keep_55) ?_
          obtain ⟨-, s2, s3, -, s5, -, s7, -, s9, -, -⟩ := hR
          refine rri dm_Re_keep_56 rfl ⟨rfl, ?_⟩
          refine ⟨by rw [g2 _ _ (by unfold tch; omega) (by omega)]; exact r1, fun i y hi => ?_, fun j hj => ⟨fun hn => ?_, fun y hy => ?_⟩, by rw [g2 _ _ (by unfold tch; omega) (by omega)]; exact r4, fun i y hi => ?_, by rw [g2 _ _ (by unfold tch; omega) (by omega)]; exact r6, fun i y hi => ?_, by rw [g2 _ _ (by unfold tch; omega) (by omega)]; exact r8, fun i c hc9 => ?_, ?_, lk2⟩
          · have hil : i < M.1.length := (List.getElem?_eq_some_iff.mp hi).1
            show rOb q2 (M.1.length - 1 - i) y
            exact obk _ _ (by omega) (s2 i y hi)
          · have hn' : dup1 M.2.1 kn x j = none := hn
            unfold dup1 at hn'
            split at hn'
            · simp at hn'
            · rw [g2 _ _ (by unfold tch; omega) (by omega)]
              exact (s3 j hj).1 hn'
          · have hy' : dup1 M.2.1 kn x j = some y := hy
            unfold dup1 at hy'
            split at hy'
            · simp at hy'
              subst hy'
              subst j
              have hx9 := s2 0 x hx
              rw [show M.1.length - 1 - 0 = M.1.length - 1 by omega] at hx9
              exact rOb_cp (rOb_fr hx9 (fun a j ht => g1 a j (by unfold tch at ht; omega))) hcp
            · exact obk _ _ (by omega) ((s3 j hj).2 y hy')
          · have hil : i < M.2.2.1.length := (List.getElem?_eq_some_iff.mp hi).1
            exact obk _ _ (by omega) (s5 i y hi)
          · have hil : i < M.2.2.2.1.length := (List.getElem?_eq_some_iff.mp hi).1
            exact obk _ _ (by omega) (s7 i y hi)
          · have hil : i < M.2.2.2.2.1.length := (List.getElem?_eq_some_iff.mp hc9).1
            have hcl := (hg.2.2.2.2.1 c (List.mem_of_getElem? hc9)).2
            obtain ⟨c1, c2⟩ := s9 i c hc9
            exact ⟨by rw [g2 _ _ (by unfold tch; omega) (by omega)]; exact c1, sg_mono c2 (fun j j1 j2 => g2 0 j (by unfold tch; omega) (by omega))⟩
          · show q2 6 4 = ((M.2.2.2.2.2 + 1 : Nat) : Int)
            rw [hcp.2.2.2 _ _ (by unfold tch; omega), e4, r10]
            simp
        · change rX E _ 29 _ _ _ _
          refine rx (xs_iconst dm_Re_keep_29) ?_
          exact rri dm_Re_keep_30 rfl ⟨vi (by rw [st_keep, if_neg hne, if_neg hr, if_pos (by omega)]), by rw [st_keep, if_neg hne, if_neg hr, if_pos (by omega)]; exact hR⟩
      · change rX E _ 18 _ _ _ _
        refine rx (xs_iconst dm_Re_keep_18) ?_
        exact rri dm_Re_keep_19 rfl ⟨vi (by rw [st_keep, if_neg hne, if_pos (Or.inr (by omega))]), by rw [st_keep, if_neg hne, if_pos (Or.inr (by omega))]; exact hR⟩
  · change rX E _ 7 _ _ _ _
    refine rx (xs_iconst dm_Re_keep_7) ?_
    exact rri dm_Re_keep_8 rfl ⟨vi (by rw [st_keep, if_pos (by omega)]), by rw [st_keep, if_pos (by omega)]; exact hR⟩
set_option maxHeartbeats 4000000 in
set_option maxRecDepth 100000 in
theorem re_fetch {q : rS} {M : mS} {k : Int} (hg : gM M) (hR : Rl q M) (hk : ir k) : rM mm_Re_fetch [.inl k] q (fun r q' => r = some (.inl (st_fetch M k).1) ∧ Rl q' (st_fetch M k).2) := by
  refine rm rfl (nl rfl) (fun E => ?_)
  have g6 := hg.2.2.2.2.2.1
  have g7 := hg.2.2.2.2.2.2.1
  have g8 := hg.2.2.2.2.2.2.2.1
  have g9 := hg.2.2.2.2.2.2.2.2.1
  have g10 := hg.2.2.2.2.2.2.2.2.2
  have r1 := hR.1
  have r4 : q 6 1 = (M.2.2.1.length : Int) := hR.2.2.2.1
  have r6 : q 6 2 = (M.2.2.2.1.length : Int) := hR.2.2.2.2.2.1
  have r8 : q 6 3 = (M.2.2.2.2.1.length : Int) := hR.2.2.2.2.2.2.2.1
  have r10 : q 6 4 = (M.2.2.2.2.2 : Int) := hR.2.2.2.2.2.2.2.2.2.1
  have hlk := hR.2.2.2.2.2.2.2.2.2.2
  show rX E _ 0 [some (.inr (some E.1.length)), some (.inl k)] [] _ _
  refine rx (xs_iload_n dm_Re_fetch_0 rfl) ?_
  refine xx_if_lt (tgt := 21) dm_Re_fetch_1 rfl hk (fun hc => ?_) (fun hc => ?_)
  · change rX E _ 21 _ _ _ _
    refine rx (xs_iconst dm_Re_fetch_21) ?_
    exact rri dm_Re_fetch_22 rfl ⟨vi (by rw [st_fetch, if_pos (Or.inl hc)]), by rw [st_fetch, if_pos (Or.inl hc)]; exact hR⟩
  · change rX E _ 4 _ _ _ _
    refine rx (xs_iload_n dm_Re_fetch_4 rfl) ?_
    refine rx (xs_iconst dm_Re_fetch_5) ?_
    refine xx_icmp_gt (tgt := 21) dm_Re_fetch_6 rfl hk (by unfold ir; omega) (fun hc2 => ?_) (fun hc2 => ?_)
    · change rX E _ 21 _ _ _ _
      refine rx (xs_iconst dm_Re_fetch_21) ?_
      exact rri dm_Re_fetch_22 rfl ⟨vi (by rw [st_fetch, if_pos (Or.inr hc2)]), by rw [st_fetch, if_pos (Or.inr hc2)]; exact hR⟩
    · change rX E _ 9 _ _ _ _
      have hr : ¬ (k < 0 ∨ 5 < k) := by omega
      obtain ⟨kn, hkn⟩ : ∃ kn : Nat, k = kn := ⟨k.toNat, by omega⟩
      have hkt : k.toNat = kn := by omega
      cases hdic : M.2.1 kn with
      | none =>
        refine rx (xs_aload_n dm_Re_fetch_9 rfl) ?_
        refine rx (rg (v := .inr (some (rA E 2))) dm_Re_fetch_10 lf_Re_16 rfl) ?_
        refine rx (xs_bipush dm_Re_fetch_13 (by decide)) ?_
        refine rx (xs_iload_n dm_Re_fetch_15 rfl) ?_
        refine rx (xs_iadd dm_Re_fetch_16) ?_
        refine rx (rlv 2 (-1 : Int) (by decide) dm_Re_fetch_17 (by omega) (by show _ < ((30 : Nat) : Int); omega) (by rw [show (12 + k).toNat = 12 + kn by omega]; exact (hR.2.2.1 kn (by omega)).1 hdic)) ?_
        refine rx (xs_if_ge_f (tgt := 23) dm_Re_fetch_18 rfl (by unfold ir; omega) (by decide)) ?_
        refine rx (xs_iconst dm_Re_fetch_21) ?_
        exact rri dm_Re_fetch_22 rfl ⟨vi (by rw [st_fetch, if_neg hr, hkt, hdic]), by rw [st_fetch, if_neg hr, hkt, hdic]; exact hR⟩
      | some x =>
        have hob := (hR.2.2.1 kn (by omega)).2 x hdic
        have hxk := gO_k (hg.2.1 kn x hdic)
        have hst : st_fetch M k = if M.1.length = 12 ∨ M.2.2.2.2.2 = 120 then (4, M) else (0, pu M 0 x) := by rw [st_fetch, if_neg hr, hkt, hdic]
        refine rx (xs_aload_n dm_Re_fetch_9 rfl) ?_
        refine rx (rg (v := .inr (some (rA E 2))) dm_Re_fetch_10 lf_Re_16 rfl) ?_
        refine rx (xs_bipush dm_Re_fetch_13 (by decide)) ?_
        refine rx (xs_iload_n dm_Re_fetch_15 rfl) ?_
        refine rx (xs_iadd dm_Re_fetch_16) ?_
        refine rx (rlv 2 x.1 (by decide) dm_Re_fetch_17 (by omega) (by show _ < ((30 : Nat) : Int); omega) (by rw [show (12 + k).toNat = 12 + kn by omega]; exact hob.1)) ?_
        refine rx (xs_if_ge_t (tgt := 23) dm_Re_fetch_18 rfl (by unfold ir; omega) (by omega)) ?_
        refine rx (xs_aload_n dm_Re_fetch_23 rfl) ?_
        refine rx (rg (v := .inl (q 6 0)) dm_Re_fetch_24 lf_Re_79 rfl) ?_
        refine rx (xs_bipush dm_Re_fetch_27 (by decide)) ?_
        refine xx_icmp_eq (tgt := 41) dm_Re_fetch_29 rfl (by unfold ir; omega) (by unfold ir; omega) (fun hc3 => ?_) (fun hc3 => ?_)
        · change rX E _ 41 _ _ _ _
          refine rx (xs_iconst dm_Re_fetch_41) ?_
          exact rri dm_Re_fetch_42 rfl ⟨vi (by rw [hst, if_pos (Or.inl (by omega))]), by rw [hst, if_pos (Or.inl (by omega))]; exact hR⟩
        · change rX E _ 32 _ _ _ _
          refine rx (xs_aload_n dm_Re_fetch_32 rfl) ?_
          refine rx (rg (v := .inl (q 6 4)) dm_Re_fetch_33 lf_Re_76 rfl) ?_
          refine rx (xs_bipush dm_Re_fetch_36 (by decide)) ?_
          refine xx_icmp_ne (tgt := 43) dm_Re_fetch_38 rfl (by unfold ir; omega) (by unfold ir; omega) (fun hc4 => ?_) (fun hc4 => ?_)
          · change rX E _ 43 _ _ _ _
            rw [hst, if_neg (by omega)]
            refine rx (xs_aload_n dm_Re_fetch_43 rfl) ?_
            refine rx (xs_dup dm_Re_fetch_44) ?_
            refine rx (rg (v := .inl (q 6 4)) dm_Re_fetch_45 lf_Re_76 rfl) ?_
            refine rx (xs_iconst dm_Re_fetch_48) ?_
            refine rx (xs_iadd dm_Re_fetch_49) ?_
            refine rx (rp 4 (by decide) dm_Re_fetch_50 lp_Re_76 (x_ft_i _)) ?_
            refine rx (xs_aload_n dm_Re_fetch_53 rfl) ?_
            refine rx (xs_bipush dm_Re_fetch_54 (by decide)) ?_
            refine rx (xs_iload_n dm_Re_fetch_56 rfl) ?_
            refine rx (xs_iadd dm_Re_fetch_57) ?_
            refine rx (xs_aload_n dm_Re_fetch_58 rfl) ?_
            refine rx (rg (v := .inl ((u3 q 6 4 ((q 6 4) + 1)) 6 0)) dm_Re_fetch_59 lf_Re_79 rfl) ?_
            have g1 : ∀ a j, ¬ (a = 6 ∧ j = 4) → (u3 q 6 4 ((q 6 4) + 1)) a j = q a j := fun a j h => u3_ne h
            have e4 : (u3 q 6 4 ((q 6 4) + 1)) 6 4 = q 6 4 + 1 := u3_eq _ _ _ _
            generalize u3 q 6 4 ((q 6 4) + 1) = q1 at g1 e4 ⊢
            have e0 : q1 6 0 = (M.1.length : Int) := by rw [g1 _ _ (by omega)]; exact r1
            refine rcV (as := [.inl (12 + k), .inl (q1 6 0)]) (rest := []) dm_Re_fetch_62 lc_Re_copyObject lm_Re_82 li_Re_copyObject (nr rfl rfl) rfl rfl rfl (nl rfl) (re_copyObject (o := 12 + kn) (p := M.1.length) (by omega) (by omega) (by omega) (by omega) (by omega) (lok_fr hlk (fun j hj => g1 _ _ (by omega)))) ?_
            rintro _ q2 ⟨rfl, hcp, lk2⟩
            show rX E _ 65 [some (.inr (some E.1.length)), some (.inl k)] [] _ _
            refine rx (xs_aload_n dm_Re_fetch_65 rfl) ?_
            refine rx (xs_dup dm_Re_fetch_66) ?_
            refine rx (rg (v := .inl (q2 6 0)) dm_Re_fetch_67 lf_Re_79 rfl) ?_
            refine rx (xs_iconst dm_Re_fetch_70) ?_
            refine rx (xs_iadd dm_Re_fetch_71) ?_
            refine rx (rp 0 (by decide) dm_Re_fetch_72 lp_Re_79 (x_ft_i _)) ?_
            refine rx (xs_iconst dm_Re_fetch_75) ?_
            have e20 : q2 6 0 = (M.1.length : Int) := by rw [hcp.2.2.2 _ _ (by unfold tch; omega)]; exact e0
            refine rri dm_Re_fetch_76 rfl ⟨rfl, Rl_done hg hR (n := 0) (p := M.1.length) (by omega) (by omega) (by omega) ?_ ?_ ?_ (fun a j h1 h2 h3 => ?_) (fun j hj => ?_)⟩
            · exact rOb_fr (rOb_cp (rOb_fr hob (fun a j ht => g1 a j (by unfold tch at ht; omega))) hcp) (fun a j ht => u3_ne (by unfold tch at ht; omega))
            · rw [u3_eq, e20]
            · rw [u3_ne (by omega), hcp.2.2.2 _ _ (by unfold tch; omega)]; exact e4
            · rw [u3_ne h2, hcp.2.2.2 _ _ h1, g1 a j h3]
            · rw [u3_ne (by omega)]; exact lk2 j hj
          · change rX E _ 41 _ _ _ _
            refine rx (xs_iconst dm_Re_fetch_41) ?_
            exact rri dm_Re_fetch_42 rfl ⟨vi (by rw [hst, if_pos (Or.inr (by omega))]), by rw [hst, if_pos (Or.inr (by omega))]; exact hR⟩
theorem Rl_less {q q' : rS} {M : mS} {E : List oB} (hg : gM M) (hR : Rl q M) (h1 : 1 ≤ M.1.length) (he : E.length ≤ 5) (h0 : q' 6 0 = (M.1.length : Int) - 1) (h2 : q' 6 2 = (E.length : Int)) (hE : ∀ (i : Nat) (x : oB), E[i]? = some x → rOb q' (23 + i) x) (h4 : q' 6 4 = q 6 4 + 1) (hf : ∀ a k, (∀ o, 23 ≤ o → o < 28 → ¬ tch o a k) → ¬ (a = 6 ∧ k = 0) → ¬ (a = 6 ∧ k = 2) → ¬ (a = 6 ∧ k = 4) → q' a k = q a k) (hl : lok q') : Rl q' (M.1.drop 1, M.2.1, M.2.2.1, E, M.2.2.2.2.1, M.2.2.2.2.2 + 1) := by
  obtain ⟨g1, g2, g3, g4, g5, g6, g7, g8, g9, g10⟩ := hg
  obtain ⟨r1, s2, s3, r4, s5, r6, s7, r8, s9, r10, r11⟩ := hR
  have nt : ∀ a k : Nat, (∀ o, o < 23 → tch o a k → True) → True := fun _ _ _ => trivial
  have obk : ∀ (o : Nat) (y : oB), o < 23 → rOb q o y → rOb q' o y := fun o y h1 hy => rOb_fr hy (fun a j ht => hf a j (fun o' h2 h3 h4 => by unfold tch at ht h4; omega) (by unfold tch at ht; omega) (by unfold tch at ht; omega) (by unfold tch at ht; omega))
  refine ⟨by show q' 6 0 = ((M.1.drop 1).length : Int); rw [h0]; simp; omega, fun i y hi => ?_, fun j hj => ⟨fun hn => ?_, fun y hy => ?_⟩, by rw [hf 6 1 (fun o h2 h3 h4 => by unfold tch at h4; omega) (by omega) (by omega) (by omega)]; exact r4, fun i y hi => ?_, h2, hE, by rw [hf 6 3 (fun o h2 h3 h4 => by unfold tch at h4; omega) (by omega) (by omega) (by omega)]; exact r8, fun i c hc9 => ?_, ?_, hl⟩
  · have hi' : (M.1.drop 1)[i]? = some y := hi
    rw [List.getElem?_drop] at hi'
    have hil := (List.getElem?_eq_some_iff.mp hi').1
    have := s2 (1 + i) y hi'
    rw [show M.1.length - 1 - (1 + i) = (M.1.drop 1).length - 1 - i by simp; omega] at this
    exact obk _ _ (by simp; omega) this
  · rw [hf 2 _ (fun o h2 h3 h4 => by unfold tch at h4; omega) (by omega) (by omega) (by omega)]
    exact (s3 j hj).1 hn
  · exact obk _ _ (by omega) ((s3 j hj).2 y hy)
  · have hil : i < M.2.2.1.length := (List.getElem?_eq_some_iff.mp hi).1
    exact obk _ _ (by omega) (s5 i y hi)
  · have hil : i < M.2.2.2.2.1.length := (List.getElem?_eq_some_iff.mp hc9).1
    have hcl := (g5 c (List.mem_of_getElem? hc9)).2
    obtain ⟨c1, c2⟩ := s9 i c hc9
    exact ⟨by rw [hf 4 _ (fun o h2 h3 h4 => by unfold tch at h4; omega) (by omega) (by omega) (by omega)]; exact c1, sg_mono c2 (fun j j1 j2 => hf 0 j (fun o h2 h3 h4 => by unfold tch at h4; omega) (by omega) (by omega) (by omega))⟩
  · show q' 6 4 = ((M.2.2.2.2.2 + 1 : Nat) : Int)
    rw [h4, r10]
    simp
set_option maxHeartbeats 4000000 in
set_option maxRecDepth 100000 in
theorem re_pop {q : rS} {M : mS} (hg : gM M) (hR : Rl q M) : rM mm_Re_pop [] q (fun r q' => r = some (.inl (st_pop M).1) ∧ Rl q' (st_pop M).2) := by
  refine rm rfl (nl rfl) (fun E => ?_)
  have g6 := hg.2.2.2.2.2.1
  have g7 := hg.2.2.2.2.2.2.1
  have g8 := hg.2.2.2.2.2.2.2.1
  have g9 := hg.2.2.2.2.2.2.2.2.1
  have g10 := hg.2.2.2.2.2.2.2.2.2
  have r1 := hR.1
  have r4 : q 6 1 = (M.2.2.1.length : Int) := hR.2.2.2.1
  have r6 : q 6 2 = (M.2.2.2.1.length : Int) := hR.2.2.2.2.2.1
  have r8 : q 6 3 = (M.2.2.2.2.1.length : Int) := hR.2.2.2.2.2.2.2.1
  have r10 : q 6 4 = (M.2.2.2.2.2 : Int) := hR.2.2.2.2.2.2.2.2.2.1
  have hlk := hR.2.2.2.2.2.2.2.2.2.2
  show rX E _ 0 [some (.inr (some E.1.length))] [] _ _
  refine rx (xs_aload_n dm_Re_pop_0 rfl) ?_
  refine rx (rg (v := .inl (q 6 0)) dm_Re_pop_1 lf_Re_79 rfl) ?_
  refine xx_if_ne (tgt := 9) dm_Re_pop_4 rfl (by unfold ir; omega) (fun hc => ?_) (fun hc => ?_)
  · change rX E _ 9 _ _ _ _
    refine rx (xs_aload_n dm_Re_pop_9 rfl) ?_
    refine rx (rg (v := .inl (q 6 4)) dm_Re_pop_10 lf_Re_76 rfl) ?_
    refine rx (xs_bipush dm_Re_pop_13 (by decide)) ?_
    refine xx_icmp_ne (tgt := 20) dm_Re_pop_15 rfl (by unfold ir; omega) (by unfold ir; omega) (fun hc2 => ?_) (fun hc2 => ?_)
    · change rX E _ 20 _ _ _ _
      have hst : st_pop M = (0, M.1.drop 1, M.2.1, M.2.2.1, M.2.2.2.1, M.2.2.2.2.1, M.2.2.2.2.2 + 1) := by rw [st_pop, if_neg (by omega), if_neg (by omega)]
      rw [hst]
      refine rx (xs_aload_n dm_Re_pop_20 rfl) ?_
      refine rx (xs_dup dm_Re_pop_21) ?_
      refine rx (rg (v := .inl (q 6 4)) dm_Re_pop_22 lf_Re_76 rfl) ?_
      refine rx (xs_iconst dm_Re_pop_25) ?_
      refine rx (xs_iadd dm_Re_pop_26) ?_
      refine rx (rp 4 (by decide) dm_Re_pop_27 lp_Re_76 (x_ft_i _)) ?_
      refine rx (xs_aload_n dm_Re_pop_30 rfl) ?_
      refine rx (xs_dup dm_Re_pop_31) ?_
      refine rx (rg (v := .inl ((u3 q 6 4 ((q 6 4) + 1)) 6 0)) dm_Re_pop_32 lf_Re_79 rfl) ?_
      refine rx (xs_iconst dm_Re_pop_35) ?_
      refine rx (xs_isub dm_Re_pop_36) ?_
      refine rx (rp 0 (by decide) dm_Re_pop_37 lp_Re_79 (x_ft_i _)) ?_
      refine rx (xs_iconst dm_Re_pop_40) ?_
      refine rri dm_Re_pop_41 rfl ⟨rfl, Rl_less hg hR (by omega) g8 ?_ ?_ (fun i x hi => ?_) ?_ (fun a k h1 h2 h3 h4 => ?_) (fun j hj => ?_)⟩
      · rw [u3_eq, u3_ne (by omega)]; omega
      · rw [u3_ne (by omega), u3_ne (by omega)]; exact r6
      · exact rOb_fr (hR.2.2.2.2.2.2.1 i x hi) (fun a j ht => by rw [u3_ne (by unfold tch at ht; omega), u3_ne (by unfold tch at ht; omega)])
      · rw [u3_ne (by omega), u3_eq]
      · rw [u3_ne h2, u3_ne h4]
      · rw [u3_ne (by omega), u3_ne (by omega)]; exact hlk j hj
    · change rX E _ 18 _ _ _ _
      refine rx (xs_iconst dm_Re_pop_18) ?_
      exact rri dm_Re_pop_19 rfl ⟨vi (by rw [st_pop, if_neg (by omega), if_pos (by omega)]), by rw [st_pop, if_neg (by omega), if_pos (by omega)]; exact hR⟩
  · change rX E _ 7 _ _ _ _
    refine rx (xs_iconst dm_Re_pop_7) ?_
    exact rri dm_Re_pop_8 rfl ⟨vi (by rw [st_pop, if_pos (by omega)]), by rw [st_pop, if_pos (by omega)]; exact hR⟩
set_option maxHeartbeats 4000000 in
set_option maxRecDepth 100000 in
theorem re_export {q : rS} {M : mS} (hg : gM M) (hR : Rl q M) : rM mm_Re_export [] q (fun r q' => r = some (.inl (st_export M).1) ∧ Rl q' (st_export M).2) := by
  refine rm rfl (nl rfl) (fun E => ?_)
  have g6 := hg.2.2.2.2.2.1
  have g7 := hg.2.2.2.2.2.2.1
  have g8 := hg.2.2.2.2.2.2.2.1
  have g9 := hg.2.2.2.2.2.2.2.2.1
  have g10 := hg.2.2.2.2.2.2.2.2.2
  have r1 := hR.1
  have r4 : q 6 1 = (M.2.2.1.length : Int) := hR.2.2.2.1
  have r6 : q 6 2 = (M.2.2.2.1.length : Int) := hR.2.2.2.2.2.1
  have r8 : q 6 3 = (M.2.2.2.2.1.length : Int) := hR.2.2.2.2.2.2.2.1
  have r10 : q 6 4 = (M.2.2.2.2.2 : Int) := hR.2.2.2.2.2.2.2.2.2.1
  have hlk := hR.2.2.2.2.2.2.2.2.2.2
  have i0 := (kd_ir hg 0).1
  show rX E _ 0 [some (.inr (some E.1.length))] [] _ _
  refine rx (xs_aload_n dm_Re_export_0 rfl) ?_
  refine rx (xs_iconst dm_Re_export_1) ?_
  refine rcV (as := [.inl 0]) (rest := []) dm_Re_export_2 lc_Re_top lm_Re_85 li_Re_top (nr rfl rfl) rfl rfl rfl (nl rfl) (re_top' (i := 0) hg hR rfl (by decide)) ?_
  rintro _ q1 ⟨rfl, hq1⟩
  have hq1 := hq1.symm
  subst hq1
  show rX E _ 5 [some (.inr (some E.1.length))] [.inl (kd M 0)] _ _
  refine rx (xs_iconst dm_Re_export_5) ?_
  refine xx_icmp_eq (tgt := 11) dm_Re_export_6 rfl i0 (by unfold ir; omega) (fun hc => ?_) (fun hc => ?_)
  · change rX E _ 11 _ _ _ _
    refine rx (xs_aload_n dm_Re_export_11 rfl) ?_
    refine rx (rg (v := .inl (q 6 2)) dm_Re_export_12 lf_Re_182 rfl) ?_
    refine rx (xs_iconst dm_Re_export_15) ?_
    refine xx_icmp_eq (tgt := 28) dm_Re_export_16 rfl (by unfold ir; omega) (by unfold ir; omega) (fun hc2 => ?_) (fun hc2 => ?_)
    · change rX E _ 28 _ _ _ _
      refine rx (xs_iconst dm_Re_export_28) ?_
      exact rri dm_Re_export_29 rfl ⟨vi (by rw [st_export, if_neg (fun h => h hc), if_pos (Or.inl (by omega))]), by rw [st_export, if_neg (fun h => h hc), if_pos (Or.inl (by omega))]; exact hR⟩
    · change rX E _ 19 _ _ _ _
      refine rx (xs_aload_n dm_Re_export_19 rfl) ?_
      refine rx (rg (v := .inl (q 6 4)) dm_Re_export_20 lf_Re_76 rfl) ?_
      refine rx (xs_bipush dm_Re_export_23 (by decide)) ?_
      refine xx_icmp_ne (tgt := 30) dm_Re_export_25 rfl (by unfold ir; omega) (by unfold ir; omega) (fun hc3 => ?_) (fun hc3 => ?_)
      · change rX E _ 30 _ _ _ _
        have hk0 := hc
        obtain ⟨x0, hx0, ka0, kb0, kc0⟩ := kd_some (M := M) (i := 0) (by rw [hk0]; decide)
        obtain ⟨wa0, wb0, wc0⟩ := Rl_row hR hx0
        have hlt0 := (List.getElem?_eq_some_iff.mp hx0).1
        have gx0 := gM_top hg hx0
        have hst : st_export M = (0, M.1.drop 1, M.2.1, M.2.2.1, M.2.2.2.1 ++ [x0], M.2.2.2.2.1, M.2.2.2.2.2 + 1) := by rw [st_export, if_neg (fun h => h hc), if_neg (by omega), hd_top hx0]
        rw [hst]
        refine rx (xs_aload_n dm_Re_export_30 rfl) ?_
        refine rx (xs_dup dm_Re_export_31) ?_
        refine rx (rg (v := .inl (q 6 4)) dm_Re_export_32 lf_Re_76 rfl) ?_
        refine rx (xs_iconst dm_Re_export_35) ?_
        refine rx (xs_iadd dm_Re_export_36) ?_
        refine rx (rp 4 (by decide) dm_Re_export_37 lp_Re_76 (x_ft_i _)) ?_
        refine rx (xs_aload_n dm_Re_export_40 rfl) ?_
        refine rx (xs_aload_n dm_Re_export_41 rfl) ?_
        refine rx (rg (v := .inl ((u3 q 6 4 ((q 6 4) + 1)) 6 0)) dm_Re_export_42 lf_Re_79 rfl) ?_
        refine rx (xs_iconst dm_Re_export_45) ?_
        refine rx (xs_isub dm_Re_export_46) ?_
        refine rx (xs_bipush dm_Re_export_47 (by decide)) ?_
        refine rx (xs_aload_n dm_Re_export_49 rfl) ?_
        refine rx (rg (v := .inl ((u3 q 6 4 ((q 6 4) + 1)) 6 2)) dm_Re_export_50 lf_Re_182 rfl) ?_
        refine rx (xs_iadd dm_Re_export_53) ?_
        have g1 : ∀ a j, ¬ (a = 6 ∧ j = 4) → (u3 q 6 4 ((q 6 4) + 1)) a j = q a j := fun a j h => u3_ne h
        have e4 : (u3 q 6 4 ((q 6 4) + 1)) 6 4 = q 6 4 + 1 := u3_eq _ _ _ _
        generalize u3 q 6 4 ((q 6 4) + 1) = q1 at g1 e4 ⊢
        have e0 : q1 6 0 = (M.1.length : Int) := by rw [g1 _ _ (by omega)]; exact r1
        have e2 : q1 6 2 = (M.2.2.2.1.length : Int) := by rw [g1 _ _ (by omega)]; exact r6
        refine rcV (as := [.inl (q1 6 0 - 1), .inl (23 + q1 6 2)]) (rest := []) dm_Re_export_54 lc_Re_copyObject lm_Re_82 li_Re_copyObject (nr rfl rfl) rfl rfl rfl (nl rfl) (re_copyObject (o := M.1.length - 1) (p := 23 + M.2.2.2.1.length) (by omega) (by omega) (by omega) (by omega) (by omega) (lok_fr hlk (fun j hj => g1 _ _ (by omega)))) ?_
        rintro _ q2 ⟨rfl, hcp, lk2⟩
        show rX E _ 57 [some (.inr (some E.1.length))] [] _ _
        refine rx (xs_aload_n dm_Re_export_57 rfl) ?_
        refine rx (xs_dup dm_Re_export_58) ?_
        refine rx (rg (v := .inl (q2 6 2)) dm_Re_export_59 lf_Re_182 rfl) ?_
        refine rx (xs_iconst dm_Re_export_62) ?_
        refine rx (xs_iadd dm_Re_export_63) ?_
        refine rx (rp 2 (by decide) dm_Re_export_64 lp_Re_182 (x_ft_i _)) ?_
        refine rx (xs_aload_n dm_Re_export_67 rfl) ?_
        refine rx (xs_dup dm_Re_export_68) ?_
        refine rx (rg (v := .inl ((u3 q2 6 2 ((q2 6 2) + 1)) 6 0)) dm_Re_export_69 lf_Re_79 rfl) ?_
        refine rx (xs_iconst dm_Re_export_72) ?_
        refine rx (xs_isub dm_Re_export_73) ?_
        refine rx (rp 0 (by decide) dm_Re_export_74 lp_Re_79 (x_ft_i _)) ?_
        refine rx (xs_iconst dm_Re_export_77) ?_
        have g2 : ∀ a j, ¬ tch (23 + M.2.2.2.1.length) a j → ¬ (a = 6 ∧ j = 4) → q2 a j = q a j := fun a j h1 h2 => by rw [hcp.2.2.2 a j h1, g1 a j h2]
        have e20 : q2 6 0 = (M.1.length : Int) := by rw [g2 _ _ (by unfold tch; omega) (by omega)]; exact r1
        have e22 : q2 6 2 = (M.2.2.2.1.length : Int) := by rw [g2 _ _ (by unfold tch; omega) (by omega)]; exact r6
        refine rri dm_Re_export_78 rfl ⟨rfl, Rl_less hg hR (by omega) (by simp; omega) ?_ ?_ (fun i x hi => ?_) ?_ (fun a k h1 h2 h3 h4 => ?_) (fun j hj => ?_)⟩
        · rw [u3_eq, u3_ne (by omega), e20]
        · rw [u3_ne (by omega), u3_eq, e22]; simp
        · refine rOb_fr (q := q2) ?_ (fun a j ht => by rw [u3_ne (by unfold tch at ht; omega), u3_ne (by unfold tch at ht; omega)])
          by_cases hil : i < M.2.2.2.1.length
          · rw [List.getElem?_append_left hil] at hi
            exact rOb_fr (hR.2.2.2.2.2.2.1 i x hi) (fun a j ht => g2 a j (by unfold tch at ht ⊢; omega) (by unfold tch at ht; omega))
          · have hi9 := (List.getElem?_eq_some_iff.mp hi).1
            simp at hi9
            have hie : i = M.2.2.2.1.length := by omega
            subst hie
            simp at hi
            subst hi
            have hx9 := hR.2.1 0 x0 hx0
            rw [show M.1.length - 1 - 0 = M.1.length - 1 by omega] at hx9
            exact rOb_cp (rOb_fr hx9 (fun a j ht => g1 a j (by unfold tch at ht; omega))) hcp
        · rw [u3_ne (by omega), u3_ne (by omega), hcp.2.2.2 _ _ (by unfold tch; omega)]; exact e4
        · rw [u3_ne h2, u3_ne h3, g2 _ _ (h1 _ (by omega) (by omega)) h4]
        · rw [u3_ne (by omega), u3_ne (by omega)]; exact lk2 j hj
      · change rX E _ 28 _ _ _ _
        refine rx (xs_iconst dm_Re_export_28) ?_
        exact rri dm_Re_export_29 rfl ⟨vi (by rw [st_export, if_neg (fun h => h hc), if_pos (Or.inr (by omega))]), by rw [st_export, if_neg (fun h => h hc), if_pos (Or.inr (by omega))]; exact hR⟩
  · change rX E _ 9 _ _ _ _
    refine rx (xs_iconst dm_Re_export_9) ?_
    exact rri dm_Re_export_10 rfl ⟨vi (by rw [st_export, if_pos hc]), by rw [st_export, if_pos hc]; exact hR⟩
