set_option maxHeartbeats 4000000 in
set_option maxRecDepth 100000 in
theorem re_count {q : rS} {M : mS} {l : Int} (hg : gM M) (hR : Rl q M) (hl : ir l) : rM mm_Re_count [.inl l] q (fun r q' => r = some (.inl (st_count M l)) ∧ q' = q) := by
  refine rm rfl (nl rfl) (fun E => ?_)
  have g6 := hg.2.2.2.2.2.1
  have g7 := hg.2.2.2.2.2.2.1
  have g8 := hg.2.2.2.2.2.2.2.1
  have g9 := hg.2.2.2.2.2.2.2.2.1
  have g10 := hg.2.2.2.2.2.2.2.2.2
  have r1 := hR.1
  have r4 : q 6 1 = (M.2.2.1.length : Int) := hR.2.2.2.1
  have r6 : q 6 2 = (M.2.2.2.1.length : Int) := hR.2.2.2.2.2.1
  have r8 : q 6 3 = (M.2.2.2.2.1.length : Int) := hR.2.2.2.2.2.2.2.1
  have r10 : q 6 4 = (M.2.2.2.2.2 : Int) := hR.2.2.2.2.2.2.2.2.2.1
  have hlk := hR.2.2.2.2.2.2.2.2.2.2
  show rX E _ 0 [some (.inr (some E.1.length)), some (.inl l)] [] _ _
  refine rx (xs_iload_n dm_Re_count_0 rfl) ?_
  by_cases h5 : l < 0 ∨ 4 < l
  · refine rx (xs_tableOut (tgt := 61) dm_Re_count_1 hl h5 rfl) ?_
    refine rx (xs_iconst dm_Re_count_61) ?_
    exact rri dm_Re_count_62 rfl ⟨vi (by unfold st_count; rw [if_neg (by omega), if_neg (by omega), if_neg (by omega), if_neg (by omega), if_neg (by omega)]), rfl⟩
  · rcases (show l = 0 ∨ l = 1 ∨ l = 2 ∨ l = 3 ∨ l = 4 by omega) with rfl | rfl | rfl | rfl | rfl
    · refine rx (xs_tableIn (tgt := 36) dm_Re_count_1 (by unfold ir; omega) (by decide) (by decide) rfl rfl) ?_
      refine rx (xs_aload_n dm_Re_count_36 rfl) ?_
      refine rx (rg (v := .inl (q 6 0)) dm_Re_count_37 lf_Re_79 rfl) ?_
      exact rri dm_Re_count_40 rfl ⟨vi (by rw [r1]; rfl), rfl⟩
    · refine rx (xs_tableIn (tgt := 41) dm_Re_count_1 (by unfold ir; omega) (by decide) (by decide) rfl rfl) ?_
      refine rx (xs_aload_n dm_Re_count_41 rfl) ?_
      refine rx (rg (v := .inl (q 6 1)) dm_Re_count_42 lf_Re_152 rfl) ?_
      exact rri dm_Re_count_45 rfl ⟨vi (by rw [r4]; rfl), rfl⟩
    · refine rx (xs_tableIn (tgt := 46) dm_Re_count_1 (by unfold ir; omega) (by decide) (by decide) rfl rfl) ?_
      refine rx (xs_aload_n dm_Re_count_46 rfl) ?_
      refine rx (rg (v := .inl (q 6 2)) dm_Re_count_47 lf_Re_182 rfl) ?_
      exact rri dm_Re_count_50 rfl ⟨vi (by rw [r6]; rfl), rfl⟩
    · refine rx (xs_tableIn (tgt := 51) dm_Re_count_1 (by unfold ir; omega) (by decide) (by decide) rfl rfl) ?_
      refine rx (xs_aload_n dm_Re_count_51 rfl) ?_
      refine rx (rg (v := .inl (q 6 3)) dm_Re_count_52 lf_Re_103 rfl) ?_
      exact rri dm_Re_count_55 rfl ⟨vi (by rw [r8]; rfl), rfl⟩
    · refine rx (xs_tableIn (tgt := 56) dm_Re_count_1 (by unfold ir; omega) (by decide) (by decide) rfl rfl) ?_
      refine rx (xs_aload_n dm_Re_count_56 rfl) ?_
      refine rx (rg (v := .inl (q 6 4)) dm_Re_count_57 lf_Re_76 rfl) ?_
      exact rri dm_Re_count_60 rfl ⟨vi (by rw [r10]; rfl), rfl⟩
theorem getI {α : Type} {l : List α} {i : Nat} : (∃ x, l[i]? = some x ∧ i < l.length) ∨ (l[i]? = none ∧ l.length ≤ i) := by
  by_cases h : i < l.length
  · exact Or.inl ⟨_, List.getElem?_eq_getElem h, h⟩
  · exact Or.inr ⟨List.getElem?_eq_none (by omega), by omega⟩
/-- the reference's number of the object at a place -/
def atI (M : mS) (p : Int) : Int := if 0 ≤ p ∧ p < (M.1.length : Int) then (M.1.length : Int) - 1 - p else if 100 ≤ p ∧ p < 106 then (match M.2.1 (p.toNat - 100) with
  | none => -1
  | some _ => p - 88) else if 200 ≤ p ∧ p < 200 + (M.2.2.1.length : Int) then p - 182 else if 300 ≤ p ∧ p < 300 + (M.2.2.2.1.length : Int) then p - 277 else -1
theorem atI_none {M : mS} {p : Int} (hg : gM M) (h : ob M p = none) : atI M p = -1 := by
  obtain ⟨-, -, -, -, -, g6, g7, g8, -⟩ := hg
  unfold ob at h
  unfold atI
  by_cases h1 : 0 ≤ p ∧ p < 100
  · rw [if_pos h1] at h
    have := List.getElem?_eq_none_iff.mp h
    rw [if_neg (by omega), if_neg (by omega), if_neg (by omega), if_neg (by omega)]
  rw [if_neg h1] at h
  by_cases h2 : 100 ≤ p ∧ p < 106
  · rw [if_pos h2] at h
    rw [if_neg (by omega), if_pos h2, h]
  rw [if_neg h2] at h
  by_cases h3 : 200 ≤ p ∧ p < 300
  · rw [if_pos h3] at h
    have := List.getElem?_eq_none_iff.mp h
    rw [if_neg (by omega), if_neg (by omega), if_neg (by omega), if_neg (by omega)]
  rw [if_neg h3] at h
  by_cases h4 : 300 ≤ p
  · rw [if_pos h4] at h
    have := List.getElem?_eq_none_iff.mp h
    rw [if_neg (by omega), if_neg (by omega), if_neg (by omega), if_neg (by omega)]
  · rw [if_neg (by omega), if_neg (by omega), if_neg (by omega), if_neg (by omega)]
theorem atI_some {q : rS} {M : mS} {p : Int} {x : oB} (hg : gM M) (hR : Rl q M) (h : ob M p = some x) : ∃ o : Nat, atI M p = o ∧ o < 28 ∧ rOb q o x ∧ gO x := by
  obtain ⟨g1, g2, g3, g4, -, g6, g7, g8, -⟩ := hg
  obtain ⟨-, s2, s3, -, s5, -, s7, -⟩ := hR
  unfold ob at h
  unfold atI
  by_cases h1 : 0 ≤ p ∧ p < 100
  · rw [if_pos h1] at h
    have hl := (List.getElem?_eq_some_iff.mp h).1
    rw [if_pos (by omega)]
    exact ⟨M.1.length - 1 - p.toNat, by omega, by omega, s2 _ _ h, g1 x (List.mem_of_getElem? h)⟩
  rw [if_neg h1] at h
  by_cases h2 : 100 ≤ p ∧ p < 106
  · rw [if_pos h2] at h
    rw [if_neg (by omega), if_pos h2, h]
    have h9 := (s3 (p.toNat - 100) (by omega)).2 x h
    exact ⟨12 + (p.toNat - 100), by show p - 88 = _; omega, by omega, h9, g2 _ x h⟩
  rw [if_neg h2] at h
  by_cases h3 : 200 ≤ p ∧ p < 300
  · rw [if_pos h3] at h
    have hl := (List.getElem?_eq_some_iff.mp h).1
    rw [if_neg (by omega), if_neg (by omega), if_pos (by omega)]
    exact ⟨18 + (p.toNat - 200), by omega, by omega, s5 _ _ h, g3 x (List.mem_of_getElem? h)⟩
  rw [if_neg h3] at h
  by_cases h4 : 300 ≤ p
  · rw [if_pos h4] at h
    have hl := (List.getElem?_eq_some_iff.mp h).1
    rw [if_neg (by omega), if_neg (by omega), if_neg (by omega), if_pos (by omega)]
    exact ⟨23 + (p.toNat - 300), by omega, by omega, s7 _ _ h, g4 x (List.mem_of_getElem? h)⟩
  · rw [if_neg h4] at h
    simp at h
set_option maxHeartbeats 4000000 in
set_option maxRecDepth 100000 in
theorem re_at {q : rS} {M : mS} {p : Int} (hg : gM M) (hR : Rl q M) (hp : ir p) : rM mm_Re_at [.inl p] q (fun r q' => r = some (.inl (atI M p)) ∧ q' = q) := by
  refine rm rfl (nl rfl) (fun E => ?_)
  have g6 := hg.2.2.2.2.2.1
  have g7 := hg.2.2.2.2.2.2.1
  have g8 := hg.2.2.2.2.2.2.2.1
  have g9 := hg.2.2.2.2.2.2.2.2.1
  have g10 := hg.2.2.2.2.2.2.2.2.2
  have r1 := hR.1
  have r4 : q 6 1 = (M.2.2.1.length : Int) := hR.2.2.2.1
  have r6 : q 6 2 = (M.2.2.2.1.length : Int) := hR.2.2.2.2.2.1
  have r8 : q 6 3 = (M.2.2.2.2.1.length : Int) := hR.2.2.2.2.2.2.2.1
  have r10 : q 6 4 = (M.2.2.2.2.2 : Int) := hR.2.2.2.2.2.2.2.2.2.1
  have hlk := hR.2.2.2.2.2.2.2.2.2.2
  show rX E _ 0 [some (.inr (some E.1.length)), some (.inl p)] [] _ _
  refine rx (xs_iload_n dm_Re_at_0 rfl) ?_
  refine xx_if_lt (tgt := 21) dm_Re_at_1 rfl hp (fun hc => ?_) (fun hc => ?_)
  · change rX E _ 21 _ _ _ _
    refine rx (xs_iload_n dm_Re_at_21 rfl) ?_
    refine rx (xs_bipush dm_Re_at_22 (by decide)) ?_
    refine xx_icmp_lt (tgt := 54) dm_Re_at_24 rfl hp (by unfold ir; omega) (fun h1 => ?_) (fun h1 => ?_)
    · change rX E _ 54 _ _ _ _
      refine rx (xs_iload_n dm_Re_at_54 rfl) ?_
      refine rx (xs_sipush dm_Re_at_55 (by decide)) ?_
      refine xx_icmp_lt (tgt := 79) dm_Re_at_58 rfl hp (by unfold ir; omega) (fun h3 => ?_) (fun h3 => ?_)
      · change rX E _ 79 _ _ _ _
        refine rx (xs_iload_n dm_Re_at_79 rfl) ?_
        refine rx (xs_sipush dm_Re_at_80 (by decide)) ?_
        refine xx_icmp_lt (tgt := 106) dm_Re_at_83 rfl hp (by unfold ir; omega) (fun h5 => ?_) (fun h5 => ?_)
        · change rX E _ 106 _ _ _ _
          refine rx (xs_iconst dm_Re_at_106) ?_
          exact rri dm_Re_at_107 rfl ⟨vi (by unfold atI; rw [if_neg (by omega), if_neg (by omega), if_neg (by omega), if_neg (by omega)]), rfl⟩
        · change rX E _ 86 _ _ _ _
          refine rx (xs_iload_n dm_Re_at_86 rfl) ?_
          refine rx (xs_sipush dm_Re_at_87 (by decide)) ?_
          refine rx (xs_aload_n dm_Re_at_90 rfl) ?_
          refine rx (rg (v := .inl (q 6 2)) dm_Re_at_91 lf_Re_182 rfl) ?_
          refine rx (xs_iadd dm_Re_at_94) ?_
          refine xx_icmp_ge (tgt := 106) dm_Re_at_95 rfl hp (by unfold ir; omega) (fun h6 => ?_) (fun h6 => ?_)
          · change rX E _ 106 _ _ _ _
            refine rx (xs_iconst dm_Re_at_106) ?_
            exact rri dm_Re_at_107 rfl ⟨vi (by unfold atI; rw [if_neg (by omega), if_neg (by omega), if_neg (by omega), if_neg (by omega)]), rfl⟩
          · change rX E _ 98 _ _ _ _
            refine rx (xs_iload_n dm_Re_at_98 rfl) ?_
            refine rx (xs_sipush dm_Re_at_99 (by decide)) ?_
            refine rx (xs_isub dm_Re_at_102) ?_
            refine rx (xs_goto (tgt := 107) dm_Re_at_103 rfl) ?_
            exact rri dm_Re_at_107 rfl ⟨vi (by unfold atI; rw [if_neg (by omega), if_neg (by omega), if_neg (by omega), if_pos (by omega)]), rfl⟩
      · change rX E _ 61 _ _ _ _
        refine rx (xs_iload_n dm_Re_at_61 rfl) ?_
        refine rx (xs_sipush dm_Re_at_62 (by decide)) ?_
        refine rx (xs_aload_n dm_Re_at_65 rfl) ?_
        refine rx (rg (v := .inl (q 6 1)) dm_Re_at_66 lf_Re_152 rfl) ?_
        refine rx (xs_iadd dm_Re_at_69) ?_
        refine xx_icmp_ge (tgt := 79) dm_Re_at_70 rfl hp (by unfold ir; omega) (fun h4 => ?_) (fun h4 => ?_)
        · change rX E _ 79 _ _ _ _
          refine rx (xs_iload_n dm_Re_at_79 rfl) ?_
          refine rx (xs_sipush dm_Re_at_80 (by decide)) ?_
          refine xx_icmp_lt (tgt := 106) dm_Re_at_83 rfl hp (by unfold ir; omega) (fun h5 => ?_) (fun h5 => ?_)
          · change rX E _ 106 _ _ _ _
            refine rx (xs_iconst dm_Re_at_106) ?_
            exact rri dm_Re_at_107 rfl ⟨vi (by unfold atI; rw [if_neg (by omega), if_neg (by omega), if_neg (by omega), if_neg (by omega)]), rfl⟩
          · change rX E _ 86 _ _ _ _
            refine rx (xs_iload_n dm_Re_at_86 rfl) ?_
            refine rx (xs_sipush dm_Re_at_87 (by decide)) ?_
            refine rx (xs_aload_n dm_Re_at_90 rfl) ?_
            refine rx (rg (v := .inl (q 6 2)) dm_Re_at_91 lf_Re_182 rfl) ?_
            refine rx (xs_iadd dm_Re_at_94) ?_
            refine xx_icmp_ge (tgt := 106) dm_Re_at_95 rfl hp (by unfold ir; omega) (fun h6 => ?_) (fun h6 => ?_)
            · change rX E _ 106 _ _ _ _
              refine rx (xs_iconst dm_Re_at_106) ?_
              exact rri dm_Re_at_107 rfl ⟨vi (by unfold atI; rw [if_neg (by omega), if_neg (by omega), if_neg (by omega), if_neg (by omega)]), rfl⟩
            · change rX E _ 98 _ _ _ _
              refine rx (xs_iload_n dm_Re_at_98 rfl) ?_
              refine rx (xs_sipush dm_Re_at_99 (by decide)) ?_
              refine rx (xs_isub dm_Re_at_102) ?_
              refine rx (xs_goto (tgt := 107) dm_Re_at_103 rfl) ?_
              exact rri dm_Re_at_107 rfl ⟨vi (by unfold atI; rw [if_neg (by omega), if_neg (by omega), if_neg (by omega), if_pos (by omega)]), rfl⟩
        · change rX E _ 73 _ _ _ _
          refine rx (xs_iload_n dm_Re_at_73 rfl) ?_
          refine rx (xs_sipush dm_Re_at_74 (by decide)) ?_
          refine rx (xs_isub dm_Re_at_77) ?_
          exact rri dm_Re_at_78 rfl ⟨vi (by unfold atI; rw [if_neg (by omega), if_neg (by omega), if_pos (by omega)]), rfl⟩
    · change rX E _ 27 _ _ _ _
      refine rx (xs_iload_n dm_Re_at_27 rfl) ?_
      refine rx (xs_bipush dm_Re_at_28 (by decide)) ?_
      refine xx_icmp_ge (tgt := 54) dm_Re_at_30 rfl hp (by unfold ir; omega) (fun h2 => ?_) (fun h2 => ?_)
      · change rX E _ 54 _ _ _ _
        refine rx (xs_iload_n dm_Re_at_54 rfl) ?_
        refine rx (xs_sipush dm_Re_at_55 (by decide)) ?_
        refine xx_icmp_lt (tgt := 79) dm_Re_at_58 rfl hp (by unfold ir; omega) (fun h3 => ?_) (fun h3 => ?_)
        · change rX E _ 79 _ _ _ _
          refine rx (xs_iload_n dm_Re_at_79 rfl) ?_
          refine rx (xs_sipush dm_Re_at_80 (by decide)) ?_
          refine xx_icmp_lt (tgt := 106) dm_Re_at_83 rfl hp (by unfold ir; omega) (fun h5 => ?_) (fun h5 => ?_)
          · change rX E _ 106 _ _ _ _
            refine rx (xs_iconst dm_Re_at_106) ?_
            exact rri dm_Re_at_107 rfl ⟨vi (by unfold atI; rw [if_neg (by omega), if_neg (by omega), if_neg (by omega), if_neg (by omega)]), rfl⟩
          · change rX E _ 86 _ _ _ _
            refine rx (xs_iload_n dm_Re_at_86 rfl) ?_
            refine rx (xs_sipush dm_Re_at_87 (by decide)) ?_
            refine rx (xs_aload_n dm_Re_at_90 rfl) ?_
            refine rx (rg (v := .inl (q 6 2)) dm_Re_at_91 lf_Re_182 rfl) ?_
            refine rx (xs_iadd dm_Re_at_94) ?_
            refine xx_icmp_ge (tgt := 106) dm_Re_at_95 rfl hp (by unfold ir; omega) (fun h6 => ?_) (fun h6 => ?_)
            · change rX E _ 106 _ _ _ _
              refine rx (xs_iconst dm_Re_at_106) ?_
              exact rri dm_Re_at_107 rfl ⟨vi (by unfold atI; rw [if_neg (by omega), if_neg (by omega), if_neg (by omega), if_neg (by omega)]), rfl⟩
            · change rX E _ 98 _ _ _ _
              refine rx (xs_iload_n dm_Re_at_98 rfl) ?_
              refine rx (xs_sipush dm_Re_at_99 (by decide)) ?_
              refine rx (xs_isub dm_Re_at_102) ?_
              refine rx (xs_goto (tgt := 107) dm_Re_at_103 rfl) ?_
              exact rri dm_Re_at_107 rfl ⟨vi (by unfold atI; rw [if_neg (by omega), if_neg (by omega), if_neg (by omega), if_pos (by omega)]), rfl⟩
        · change rX E _ 61 _ _ _ _
          refine rx (xs_iload_n dm_Re_at_61 rfl) ?_
          refine rx (xs_sipush dm_Re_at_62 (by decide)) ?_
          refine rx (xs_aload_n dm_Re_at_65 rfl) ?_
          refine rx (rg (v := .inl (q 6 1)) dm_Re_at_66 lf_Re_152 rfl) ?_
          refine rx (xs_iadd dm_Re_at_69) ?_
          refine xx_icmp_ge (tgt := 79) dm_Re_at_70 rfl hp (by unfold ir; omega) (fun h4 => ?_) (fun h4 => ?_)
          · change rX E _ 79 _ _ _ _
            refine rx (xs_iload_n dm_Re_at_79 rfl) ?_
            refine rx (xs_sipush dm_Re_at_80 (by decide)) ?_
            refine xx_icmp_lt (tgt := 106) dm_Re_at_83 rfl hp (by unfold ir; omega) (fun h5 => ?_) (fun h5 => ?_)
            · change rX E _ 106 _ _ _ _
              refine rx (xs_iconst dm_Re_at_106) ?_
              exact rri dm_Re_at_107 rfl ⟨vi (by unfold atI; rw [if_neg (by omega), if_neg (by omega), if_neg (by omega), if_neg (by omega)]), rfl⟩
            · change rX E _ 86 _ _ _ _
              refine rx (xs_iload_n dm_Re_at_86 rfl) ?_
              refine rx (xs_sipush dm_Re_at_87 (by decide)) ?_
              refine rx (xs_aload_n dm_Re_at_90 rfl) ?_
              refine rx (rg (v := .inl (q 6 2)) dm_Re_at_91 lf_Re_182 rfl) ?_
              refine rx (xs_iadd dm_Re_at_94) ?_
              refine xx_icmp_ge (tgt := 106) dm_Re_at_95 rfl hp (by unfold ir; omega) (fun h6 => ?_) (fun h6 => ?_)
              · change rX E _ 106 _ _ _ _
                refine rx (xs_iconst dm_Re_at_106) ?_
                exact rri dm_Re_at_107 rfl ⟨vi (by unfold atI; rw [if_neg (by omega), if_neg (by omega), if_neg (by omega), if_neg (by omega)]), rfl⟩
              · change rX E _ 98 _ _ _ _
                refine rx (xs_iload_n dm_Re_at_98 rfl) ?_
                refine rx (xs_sipush dm_Re_at_99 (by decide)) ?_
                refine rx (xs_isub dm_Re_at_102) ?_
                refine rx (xs_goto (tgt := 107) dm_Re_at_103 rfl) ?_
                exact rri dm_Re_at_107 rfl ⟨vi (by unfold atI; rw [if_neg (by omega), if_neg (by omega), if_neg (by omega), if_pos (by omega)]), rfl⟩
          · change rX E _ 73 _ _ _ _
            refine rx (xs_iload_n dm_Re_at_73 rfl) ?_
            refine rx (xs_sipush dm_Re_at_74 (by decide)) ?_
            refine rx (xs_isub dm_Re_at_77) ?_
            exact rri dm_Re_at_78 rfl ⟨vi (by unfold atI; rw [if_neg (by omega), if_neg (by omega), if_pos (by omega)]), rfl⟩
      · change rX E _ 33 _ _ _ _
        obtain ⟨kn, hkn⟩ : ∃ kn : Nat, p = 100 + (kn : Int) := ⟨(p - 100).toNat, by omega⟩
        have hk2 : p.toNat - 100 = kn := by omega
        cases hdic : M.2.1 kn with
        | none =>
          refine rx (xs_aload_n dm_Re_at_33 rfl) ?_
          refine rx (rg (v := .inr (some (rA E 2))) dm_Re_at_34 lf_Re_16 rfl) ?_
          refine rx (xs_iload_n dm_Re_at_37 rfl) ?_
          refine rx (xs_bipush dm_Re_at_38 (by decide)) ?_
          refine rx (xs_isub dm_Re_at_40) ?_
          refine rx (rlv 2 (-1 : Int) (by decide) dm_Re_at_41 (by omega) (by show _ < ((30 : Nat) : Int); omega) (by rw [show (p - 88).toNat = 12 + kn by omega]; exact (hR.2.2.1 kn (by omega)).1 hdic)) ?_
          refine rx (xs_if_ge_f (tgt := 49) dm_Re_at_42 rfl (by unfold ir; omega) (by decide)) ?_
          refine rx (xs_iconst dm_Re_at_45) ?_
          refine rx (xs_goto (tgt := 53) dm_Re_at_46 rfl) ?_
          exact rri dm_Re_at_53 rfl ⟨vi (by unfold atI; rw [if_neg (by omega), if_pos (by omega), hk2, hdic]), rfl⟩
        | some x =>
          have hob := (hR.2.2.1 kn (by omega)).2 x hdic
          have hxk := gO_k (hg.2.1 kn x hdic)
          refine rx (xs_aload_n dm_Re_at_33 rfl) ?_
          refine rx (rg (v := .inr (some (rA E 2))) dm_Re_at_34 lf_Re_16 rfl) ?_
          refine rx (xs_iload_n dm_Re_at_37 rfl) ?_
          refine rx (xs_bipush dm_Re_at_38 (by decide)) ?_
          refine rx (xs_isub dm_Re_at_40) ?_
          refine rx (rlv 2 x.1 (by decide) dm_Re_at_41 (by omega) (by show _ < ((30 : Nat) : Int); omega) (by rw [show (p - 88).toNat = 12 + kn by omega]; exact hob.1)) ?_
          refine rx (xs_if_ge_t (tgt := 49) dm_Re_at_42 rfl (by unfold ir; omega) (by omega)) ?_
          refine rx (xs_iload_n dm_Re_at_49 rfl) ?_
          refine rx (xs_bipush dm_Re_at_50 (by decide)) ?_
          refine rx (xs_isub dm_Re_at_52) ?_
          exact rri dm_Re_at_53 rfl ⟨vi (by unfold atI; rw [if_neg (by omega), if_pos (by omega), hk2, hdic]), rfl⟩
  · change rX E _ 4 _ _ _ _
    refine rx (xs_iload_n dm_Re_at_4 rfl) ?_
    refine rx (xs_aload_n dm_Re_at_5 rfl) ?_
    refine rx (rg (v := .inl (q 6 0)) dm_Re_at_6 lf_Re_79 rfl) ?_
    refine xx_icmp_ge (tgt := 21) dm_Re_at_9 rfl hp (by unfold ir; omega) (fun hc2 => ?_) (fun hc2 => ?_)
    · change rX E _ 21 _ _ _ _
      refine rx (xs_iload_n dm_Re_at_21 rfl) ?_
      refine rx (xs_bipush dm_Re_at_22 (by decide)) ?_
      refine xx_icmp_lt (tgt := 54) dm_Re_at_24 rfl hp (by unfold ir; omega) (fun h1 => ?_) (fun h1 => ?_)
      · change rX E _ 54 _ _ _ _
        refine rx (xs_iload_n dm_Re_at_54 rfl) ?_
        refine rx (xs_sipush dm_Re_at_55 (by decide)) ?_
        refine xx_icmp_lt (tgt := 79) dm_Re_at_58 rfl hp (by unfold ir; omega) (fun h3 => ?_) (fun h3 => ?_)
        · change rX E _ 79 _ _ _ _
          refine rx (xs_iload_n dm_Re_at_79 rfl) ?_
          refine rx (xs_sipush dm_Re_at_80 (by decide)) ?_
          refine xx_icmp_lt (tgt := 106) dm_Re_at_83 rfl hp (by unfold ir; omega) (fun h5 => ?_) (fun h5 => ?_)
          · change rX E _ 106 _ _ _ _
            refine rx (xs_iconst dm_Re_at_106) ?_
            exact rri dm_Re_at_107 rfl ⟨vi (by unfold atI; rw [if_neg (by omega), if_neg (by omega), if_neg (by omega), if_neg (by omega)]), rfl⟩
          · change rX E _ 86 _ _ _ _
            refine rx (xs_iload_n dm_Re_at_86 rfl) ?_
            refine rx (xs_sipush dm_Re_at_87 (by decide)) ?_
            refine rx (xs_aload_n dm_Re_at_90 rfl) ?_
            refine rx (rg (v := .inl (q 6 2)) dm_Re_at_91 lf_Re_182 rfl) ?_
            refine rx (xs_iadd dm_Re_at_94) ?_
            refine xx_icmp_ge (tgt := 106) dm_Re_at_95 rfl hp (by unfold ir; omega) (fun h6 => ?_) (fun h6 => ?_)
            · change rX E _ 106 _ _ _ _
              refine rx (xs_iconst dm_Re_at_106) ?_
              exact rri dm_Re_at_107 rfl ⟨vi (by unfold atI; rw [if_neg (by omega), if_neg (by omega), if_neg (by omega), if_neg (by omega)]), rfl⟩
            · change rX E _ 98 _ _ _ _
              refine rx (xs_iload_n dm_Re_at_98 rfl) ?_
              refine rx (xs_sipush dm_Re_at_99 (by decide)) ?_
              refine rx (xs_isub dm_Re_at_102) ?_
              refine rx (xs_goto (tgt := 107) dm_Re_at_103 rfl) ?_
              exact rri dm_Re_at_107 rfl ⟨vi (by unfold atI; rw [if_neg (by omega), if_neg (by omega), if_neg (by omega), if_pos (by omega)]), rfl⟩
        · change rX E _ 61 _ _ _ _
          refine rx (xs_iload_n dm_Re_at_61 rfl) ?_
          refine rx (xs_sipush dm_Re_at_62 (by decide)) ?_
          refine rx (xs_aload_n dm_Re_at_65 rfl) ?_
          refine rx (rg (v := .inl (q 6 1)) dm_Re_at_66 lf_Re_152 rfl) ?_
          refine rx (xs_iadd dm_Re_at_69) ?_
          refine xx_icmp_ge (tgt := 79) dm_Re_at_70 rfl hp (by unfold ir; omega) (fun h4 => ?_) (fun h4 => ?_)
          · change rX E _ 79 _ _ _ _
            refine rx (xs_iload_n dm_Re_at_79 rfl) ?_
            refine rx (xs_sipush dm_Re_at_80 (by decide)) ?_
            refine xx_icmp_lt (tgt := 106) dm_Re_at_83 rfl hp (by unfold ir; omega) (fun h5 => ?_) (fun h5 => ?_)
            · change rX E _ 106 _ _ _ _
              refine rx (xs_iconst dm_Re_at_106) ?_
              exact rri dm_Re_at_107 rfl ⟨vi (by unfold atI; rw [if_neg (by omega), if_neg (by omega), if_neg (by omega), if_neg (by omega)]), rfl⟩
            · change rX E _ 86 _ _ _ _
              refine rx (xs_iload_n dm_Re_at_86 rfl) ?_
              refine rx (xs_sipush dm_Re_at_87 (by decide)) ?_
              refine rx (xs_aload_n dm_Re_at_90 rfl) ?_
              refine rx (rg (v := .inl (q 6 2)) dm_Re_at_91 lf_Re_182 rfl) ?_
              refine rx (xs_iadd dm_Re_at_94) ?_
              refine xx_icmp_ge (tgt := 106) dm_Re_at_95 rfl hp (by unfold ir; omega) (fun h6 => ?_) (fun h6 => ?_)
              · change rX E _ 106 _ _ _ _
                refine rx (xs_iconst dm_Re_at_106) ?_
                exact rri dm_Re_at_107 rfl ⟨vi (by unfold atI; rw [if_neg (by omega), if_neg (by omega), if_neg (by omega), if_neg (by omega)]), rfl⟩
              · change rX E _ 98 _ _ _ _
                refine rx (xs_iload_n dm_Re_at_98 rfl) ?_
                refine rx (xs_sipush dm_Re_at_99 (by decide)) ?_
                refine rx (xs_isub dm_Re_at_102) ?_
                refine rx (xs_goto (tgt := 107) dm_Re_at_103 rfl) ?_
                exact rri dm_Re_at_107 rfl ⟨vi (by unfold atI; rw [if_neg (by omega), if_neg (by omega), if_neg (by omega), if_pos (by omega)]), rfl⟩
          · change rX E _ 73 _ _ _ _
            refine rx (xs_iload_n dm_Re_at_73 rfl) ?_
            refine rx (xs_sipush dm_Re_at_74 (by decide)) ?_
            refine rx (xs_isub dm_Re_at_77) ?_
            exact rri dm_Re_at_78 rfl ⟨vi (by unfold atI; rw [if_neg (by omega), if_neg (by omega), if_pos (by omega)]), rfl⟩
      · change rX E _ 27 _ _ _ _
        refine rx (xs_iload_n dm_Re_at_27 rfl) ?_
        refine rx (xs_bipush dm_Re_at_28 (by decide)) ?_
        refine xx_icmp_ge (tgt := 54) dm_Re_at_30 rfl hp (by unfold ir; omega) (fun h2 => ?_) (fun h2 => ?_)
        · change rX E _ 54 _ _ _ _
          refine rx (xs_iload_n dm_Re_at_54 rfl) ?_
          refine rx (xs_sipush dm_Re_at_55 (by decide)) ?_
          refine xx_icmp_lt (tgt := 79) dm_Re_at_58 rfl hp (by unfold ir; omega) (fun h3 => ?_) (fun h3 => ?_)
          · change rX E _ 79 _ _ _ _
            refine rx (xs_iload_n dm_Re_at_79 rfl) ?_
            refine rx (xs_sipush dm_Re_at_80 (by decide)) ?_
            refine xx_icmp_lt (tgt := 106) dm_Re_at_83 rfl hp (by unfold ir; omega) (fun h5 => ?_) (fun h5 => ?_)
            · change rX E _ 106 _ _ _ _
              refine rx (xs_iconst dm_Re_at_106) ?_
              exact rri dm_Re_at_107 rfl ⟨vi (by unfold atI; rw [if_neg (by omega), if_neg (by omega), if_neg (by omega), if_neg (by omega)]), rfl⟩
            · change rX E _ 86 _ _ _ _
              refine rx (xs_iload_n dm_Re_at_86 rfl) ?_
              refine rx (xs_sipush dm_Re_at_87 (by decide)) ?_
              refine rx (xs_aload_n dm_Re_at_90 rfl) ?_
              refine rx (rg (v := .inl (q 6 2)) dm_Re_at_91 lf_Re_182 rfl) ?_
              refine rx (xs_iadd dm_Re_at_94) ?_
              refine xx_icmp_ge (tgt := 106) dm_Re_at_95 rfl hp (by unfold ir; omega) (fun h6 => ?_) (fun h6 => ?_)
              · change rX E _ 106 _ _ _ _
                refine rx (xs_iconst dm_Re_at_106) ?_
                exact rri dm_Re_at_107 rfl ⟨vi (by unfold atI; rw [if_neg (by omega), if_neg (by omega), if_neg (by omega), if_neg (by omega)]), rfl⟩
              · change rX E _ 98 _ _ _ _
                refine rx (xs_iload_n dm_Re_at_98 rfl) ?_
                refine rx (xs_sipush dm_Re_at_99 (by decide)) ?_
                refine rx (xs_isub dm_Re_at_102) ?_
                refine rx (xs_goto (tgt := 107) dm_Re_at_103 rfl) ?_
                exact rri dm_Re_at_107 rfl ⟨vi (by unfold atI; rw [if_neg (by omega), if_neg (by omega), if_neg (by omega), if_pos (by omega)]), rfl⟩
          · change rX E _ 61 _ _ _ _
            refine rx (xs_iload_n dm_Re_at_61 rfl) ?_
            refine rx (xs_sipush dm_Re_at_62 (by decide)) ?_
            refine rx (xs_aload_n dm_Re_at_65 rfl) ?_
            refine rx (rg (v := .inl (q 6 1)) dm_Re_at_66 lf_Re_152 rfl) ?_
            refine rx (xs_iadd dm_Re_at_69) ?_
            refine xx_icmp_ge (tgt := 79) dm_Re_at_70 rfl hp (by unfold ir; omega) (fun h4 => ?_) (fun h4 => ?_)
            · change rX E _ 79 _ _ _ _
              refine rx (xs_iload_n dm_Re_at_79 rfl) ?_
              refine rx (xs_sipush dm_Re_at_80 (by decide)) ?_
              refine xx_icmp_lt (tgt := 106) dm_Re_at_83 rfl hp (by unfold ir; omega) (fun h5 => ?_) (fun h5 => ?_)
              · change rX E _ 106 _ _ _ _
                refine rx (xs_iconst dm_Re_at_106) ?_
                exact rri dm_Re_at_107 rfl ⟨vi (by unfold atI; rw [if_neg (by omega), if_neg (by omega), if_neg (by omega), if_neg (by omega)]), rfl⟩
              · change rX E _ 86 _ _ _ _
                refine rx (xs_iload_n dm_Re_at_86 rfl) ?_
                refine rx (xs_sipush dm_Re_at_87 (by decide)) ?_
                refine rx (xs_aload_n dm_Re_at_90 rfl) ?_
                refine rx (rg (v := .inl (q 6 2)) dm_Re_at_91 lf_Re_182 rfl) ?_
                refine rx (xs_iadd dm_Re_at_94) ?_
                refine xx_icmp_ge (tgt := 106) dm_Re_at_95 rfl hp (by unfold ir; omega) (fun h6 => ?_) (fun h6 => ?_)
                · change rX E _ 106 _ _ _ _
                  refine rx (xs_iconst dm_Re_at_106) ?_
                  exact rri dm_Re_at_107 rfl ⟨vi (by unfold atI; rw [if_neg (by omega), if_neg (by omega), if_neg (by omega), if_neg (by omega)]), rfl⟩
                · change rX E _ 98 _ _ _ _
                  refine rx (xs_iload_n dm_Re_at_98 rfl) ?_
                  refine rx (xs_sipush dm_Re_at_99 (by decide)) ?_
                  refine rx (xs_isub dm_Re_at_102) ?_
                  refine rx (xs_goto (tgt := 107) dm_Re_at_103 rfl) ?_
                  exact rri dm_Re_at_107 rfl ⟨vi (by unfold atI; rw [if_neg (by omega), if_neg (by omega), if_neg (by omega), if_pos (by omega)]), rfl⟩
            · change rX E _ 73 _ _ _ _
              refine rx (xs_iload_n dm_Re_at_73 rfl) ?_
              refine rx (xs_sipush dm_Re_at_74 (by decide)) ?_
              refine rx (xs_isub dm_Re_at_77) ?_
              exact rri dm_Re_at_78 rfl ⟨vi (by unfold atI; rw [if_neg (by omega), if_neg (by omega), if_pos (by omega)]), rfl⟩
        · change rX E _ 33 _ _ _ _
          obtain ⟨kn, hkn⟩ : ∃ kn : Nat, p = 100 + (kn : Int) := ⟨(p - 100).toNat, by omega⟩
          have hk2 : p.toNat - 100 = kn := by omega
          cases hdic : M.2.1 kn with
          | none =>
            refine rx (xs_aload_n dm_Re_at_33 rfl) ?_
            refine rx (rg (v := .inr (some (rA E 2))) dm_Re_at_34 lf_Re_16 rfl) ?_
            refine rx (xs_iload_n dm_Re_at_37 rfl) ?_
            refine rx (xs_bipush dm_Re_at_38 (by decide)) ?_
            refine rx (xs_isub dm_Re_at_40) ?_
            refine rx (rlv 2 (-1 : Int) (by decide) dm_Re_at_41 (by omega) (by show _ < ((30 : Nat) : Int); omega) (by rw [show (p - 88).toNat = 12 + kn by omega]; exact (hR.2.2.1 kn (by omega)).1 hdic)) ?_
            refine rx (xs_if_ge_f (tgt := 49) dm_Re_at_42 rfl (by unfold ir; omega) (by decide)) ?_
            refine rx (xs_iconst dm_Re_at_45) ?_
            refine rx (xs_goto (tgt := 53) dm_Re_at_46 rfl) ?_
            exact rri dm_Re_at_53 rfl ⟨vi (by unfold atI; rw [if_neg (by omega), if_pos (by omega), hk2, hdic]), rfl⟩
          | some x =>
            have hob := (hR.2.2.1 kn (by omega)).2 x hdic
            have hxk := gO_k (hg.2.1 kn x hdic)
            refine rx (xs_aload_n dm_Re_at_33 rfl) ?_
            refine rx (rg (v := .inr (some (rA E 2))) dm_Re_at_34 lf_Re_16 rfl) ?_
            refine rx (xs_iload_n dm_Re_at_37 rfl) ?_
            refine rx (xs_bipush dm_Re_at_38 (by decide)) ?_
            refine rx (xs_isub dm_Re_at_40) ?_
            refine rx (rlv 2 x.1 (by decide) dm_Re_at_41 (by omega) (by show _ < ((30 : Nat) : Int); omega) (by rw [show (p - 88).toNat = 12 + kn by omega]; exact hob.1)) ?_
            refine rx (xs_if_ge_t (tgt := 49) dm_Re_at_42 rfl (by unfold ir; omega) (by omega)) ?_
            refine rx (xs_iload_n dm_Re_at_49 rfl) ?_
            refine rx (xs_bipush dm_Re_at_50 (by decide)) ?_
            refine rx (xs_isub dm_Re_at_52) ?_
            exact rri dm_Re_at_53 rfl ⟨vi (by unfold atI; rw [if_neg (by omega), if_pos (by omega), hk2, hdic]), rfl⟩
    · change rX E _ 12 _ _ _ _
      refine rx (xs_aload_n dm_Re_at_12 rfl) ?_
      refine rx (rg (v := .inl (q 6 0)) dm_Re_at_13 lf_Re_79 rfl) ?_
      refine rx (xs_iconst dm_Re_at_16) ?_
      refine rx (xs_isub dm_Re_at_17) ?_
      refine rx (xs_iload_n dm_Re_at_18 rfl) ?_
      refine rx (xs_isub dm_Re_at_19) ?_
      exact rri dm_Re_at_20 rfl ⟨vi (by unfold atI; rw [if_pos (by omega), r1]), rfl⟩
set_option maxHeartbeats 4000000 in
set_option maxRecDepth 100000 in
theorem re_kind {q : rS} {M : mS} {p : Int} (hg : gM M) (hR : Rl q M) (hp : ir p) : rM mm_Re_kind [.inl p] q (fun r q' => r = some (.inl (st_kind M p)) ∧ q' = q) := by
  refine rm rfl (nl rfl) (fun E => ?_)
  cases ho : ob M p with
  | none =>
    have e := atI_none hg ho
    show rX E _ 0 [some (.inr (some E.1.length)), some (.inl p), none] [] _ _
    refine rx (xs_aload_n dm_Re_kind_0 rfl) ?_
    refine rx (xs_iload_n dm_Re_kind_1 rfl) ?_
    refine rcV (as := [.inl p]) (rest := []) dm_Re_kind_2 lc_Re_at lm_Re_185 li_Re_at (nr rfl rfl) rfl rfl rfl (nl rfl) (re_at hg hR hp) ?_
    rintro _ q1 ⟨rfl, hq1⟩
    have hq1 := hq1.symm
    subst hq1
    show rX E _ 5 [some (.inr (some E.1.length)), some (.inl p), none] [.inl (atI M p)] _ _
    rw [e]
    refine rx (xs_istore_n dm_Re_kind_5 (by decide)) ?_
    show rX E _ 6 [some (.inr (some E.1.length)), some (.inl p), some (.inl (-1))] [] _ _
    refine rx (xs_iload_n dm_Re_kind_6 rfl) ?_
    refine rx (xs_if_ge_f (tgt := 14) dm_Re_kind_7 rfl (by unfold ir; omega) (by decide)) ?_
    refine rx (xs_iconst dm_Re_kind_10) ?_
    refine rx (xs_goto (tgt := 20) dm_Re_kind_11 rfl) ?_
    exact rri dm_Re_kind_20 rfl ⟨vi (by unfold st_kind; rw [ho]), rfl⟩
  | some x =>
    obtain ⟨o, e, h1, hob, -⟩ := atI_some hg hR ho
    show rX E _ 0 [some (.inr (some E.1.length)), some (.inl p), none] [] _ _
    refine rx (xs_aload_n dm_Re_kind_0 rfl) ?_
    refine rx (xs_iload_n dm_Re_kind_1 rfl) ?_
    refine rcV (as := [.inl p]) (rest := []) dm_Re_kind_2 lc_Re_at lm_Re_185 li_Re_at (nr rfl rfl) rfl rfl rfl (nl rfl) (re_at hg hR hp) ?_
    rintro _ q1 ⟨rfl, hq1⟩
    have hq1 := hq1.symm
    subst hq1
    show rX E _ 5 [some (.inr (some E.1.length)), some (.inl p), none] [.inl (atI M p)] _ _
    rw [e]
    refine rx (xs_istore_n dm_Re_kind_5 (by decide)) ?_
    show rX E _ 6 [some (.inr (some E.1.length)), some (.inl p), some (.inl (o : Int))] [] _ _
    refine rx (xs_iload_n dm_Re_kind_6 rfl) ?_
    refine rx (xs_if_ge_t (tgt := 14) dm_Re_kind_7 rfl (by unfold ir; omega) (by omega)) ?_
    refine rx (xs_aload_n dm_Re_kind_14 rfl) ?_
    refine rx (rg (v := .inr (some (rA E 2))) dm_Re_kind_15 lf_Re_16 rfl) ?_
    refine rx (xs_iload_n dm_Re_kind_18 rfl) ?_
    refine rx (rlv 2 x.1 (by decide) dm_Re_kind_19 (by omega) (by show _ < ((30 : Nat) : Int); omega) (by rw [Int.toNat_natCast]; exact hob.1)) ?_
    exact rri dm_Re_kind_20 rfl ⟨vi (by unfold st_kind; rw [ho]), rfl⟩
set_option maxHeartbeats 4000000 in
set_option maxRecDepth 100000 in
theorem re_hyps {q : rS} {M : mS} {p : Int} (hg : gM M) (hR : Rl q M) (hp : ir p) : rM mm_Re_hypotheses [.inl p] q (fun r q' => r = some (.inl (st_hyps M p)) ∧ q' = q) := by
  refine rm rfl (nl rfl) (fun E => ?_)
  cases ho : ob M p with
  | none =>
    have e := atI_none hg ho
    show rX E _ 0 [some (.inr (some E.1.length)), some (.inl p), none] [] _ _
    refine rx (xs_aload_n dm_Re_hypotheses_0 rfl) ?_
    refine rx (xs_iload_n dm_Re_hypotheses_1 rfl) ?_
    refine rcV (as := [.inl p]) (rest := []) dm_Re_hypotheses_2 lc_Re_at lm_Re_185 li_Re_at (nr rfl rfl) rfl rfl rfl (nl rfl) (re_at hg hR hp) ?_
    rintro _ q1 ⟨rfl, hq1⟩
    have hq1 := hq1.symm
    subst hq1
    show rX E _ 5 [some (.inr (some E.1.length)), some (.inl p), none] [.inl (atI M p)] _ _
    rw [e]
    refine rx (xs_istore_n dm_Re_hypotheses_5 (by decide)) ?_
    show rX E _ 6 [some (.inr (some E.1.length)), some (.inl p), some (.inl (-1))] [] _ _
    refine rx (xs_iload_n dm_Re_hypotheses_6 rfl) ?_
    refine rx (xs_if_lt_t (tgt := 20) dm_Re_hypotheses_7 rfl (by unfold ir; omega) (by decide)) ?_
    refine rx (xs_iconst dm_Re_hypotheses_20) ?_
    refine rx (xs_goto (tgt := 30) dm_Re_hypotheses_21 rfl) ?_
    exact rri dm_Re_hypotheses_30 rfl ⟨vi (by unfold st_hyps; rw [ho]), rfl⟩
  | some x =>
    obtain ⟨o, e, h1, hob, hgo⟩ := atI_some hg hR ho
    have hxk := gO_k hgo
    show rX E _ 0 [some (.inr (some E.1.length)), some (.inl p), none] [] _ _
    refine rx (xs_aload_n dm_Re_hypotheses_0 rfl) ?_
    refine rx (xs_iload_n dm_Re_hypotheses_1 rfl) ?_
    refine rcV (as := [.inl p]) (rest := []) dm_Re_hypotheses_2 lc_Re_at lm_Re_185 li_Re_at (nr rfl rfl) rfl rfl rfl (nl rfl) (re_at hg hR hp) ?_
    rintro _ q1 ⟨rfl, hq1⟩
    have hq1 := hq1.symm
    subst hq1
    show rX E _ 5 [some (.inr (some E.1.length)), some (.inl p), none] [.inl (atI M p)] _ _
    rw [e]
    refine rx (xs_istore_n dm_Re_hypotheses_5 (by decide)) ?_
    show rX E _ 6 [some (.inr (some E.1.length)), some (.inl p), some (.inl (o : Int))] [] _ _
    refine rx (xs_iload_n dm_Re_hypotheses_6 rfl) ?_
    refine rx (xs_if_lt_f (tgt := 20) dm_Re_hypotheses_7 rfl (by unfold ir; omega) (by omega)) ?_
    refine rx (xs_aload_n dm_Re_hypotheses_10 rfl) ?_
    refine rx (rg (v := .inr (some (rA E 2))) dm_Re_hypotheses_11 lf_Re_16 rfl) ?_
    refine rx (xs_iload_n dm_Re_hypotheses_14 rfl) ?_
    refine rx (rlv 2 x.1 (by decide) dm_Re_hypotheses_15 (by omega) (by show _ < ((30 : Nat) : Int); omega) (by rw [Int.toNat_natCast]; exact hob.1)) ?_
    refine rx (xs_iconst dm_Re_hypotheses_16) ?_
    refine xx_icmp_eq (tgt := 24) dm_Re_hypotheses_17 rfl (by unfold ir; omega) (by unfold ir; omega) (fun hc => ?_) (fun hc => ?_)
    · change rX E _ 24 _ _ _ _
      refine rx (xs_aload_n dm_Re_hypotheses_24 rfl) ?_
      refine rx (rg (v := .inr (some (rA E 3))) dm_Re_hypotheses_25 lf_Re_19 rfl) ?_
      refine rx (xs_iload_n dm_Re_hypotheses_28 rfl) ?_
      refine rx (rlv 3 (x.2.2.length : Int) (by decide) dm_Re_hypotheses_29 (by omega) (by show _ < ((30 : Nat) : Int); omega) (by rw [Int.toNat_natCast]; exact hob.2.2.1)) ?_
      exact rri dm_Re_hypotheses_30 rfl ⟨vi (by unfold st_hyps; rw [ho]; show _ = if x.1 = 2 then _ else _; rw [if_pos hc]), rfl⟩
    · change rX E _ 20 _ _ _ _
      refine rx (xs_iconst dm_Re_hypotheses_20) ?_
      refine rx (xs_goto (tgt := 30) dm_Re_hypotheses_21 rfl) ?_
      exact rri dm_Re_hypotheses_30 rfl ⟨vi (by unfold st_hyps; rw [ho]; show _ = if x.1 = 2 then _ else _; rw [if_neg hc]), rfl⟩
theorem rowI_ob {q : rS} {o : Nat} {x : oB} {i : Int} {l : List Int} (h : rOb q o x) (hi : rowI x i = some l) : ∃ j : Nat, i = j ∧ j ≤ x.2.2.length ∧ j < 4 ∧ rw1 q o j l := by
  unfold rowI at hi
  split at hi
  · simp at hi
    subst hi
    exact ⟨0, by omega, by omega, by omega, h.2.1⟩
  · split at hi
    · simp at hi
    · have hl := (List.getElem?_eq_some_iff.mp hi).1
      have h3 := h.2.2.2.1
      have := h.2.2.2.2 _ _ hi
      refine ⟨i.toNat, by omega, by omega, by omega, ?_⟩
      rw [show i.toNat - 1 + 1 = i.toNat by omega] at this
      exact this
theorem rowI_no {x : oB} {i : Int} (hi : rowI x i = none) : i < 0 ∨ (x.2.2.length : Int) < i := by
  unfold rowI at hi
  split at hi
  · simp at hi
  · split at hi
    · left; assumption
    · have := List.getElem?_eq_none_iff.mp hi
      right; omega
set_option maxHeartbeats 4000000 in
set_option maxRecDepth 100000 in
theorem re_length {q : rS} {M : mS} {p i : Int} (hg : gM M) (hR : Rl q M) (hp : ir p) (hi : ir i) : rM mm_Re_length [.inl p, .inl i] q (fun r q' => r = some (.inl (st_length M p i)) ∧ q' = q) := by
  refine rm rfl (nl rfl) (fun E => ?_)
  cases ho : ob M p with
  | none =>
    have e := atI_none hg ho
    show rX E _ 0 [some (.inr (some E.1.length)), some (.inl p), some (.inl i), none] [] _ _
    refine rx (xs_aload_n dm_Re_length_0 rfl) ?_
    refine rx (xs_iload_n dm_Re_length_1 rfl) ?_
    refine rcV (as := [.inl p]) (rest := []) dm_Re_length_2 lc_Re_at lm_Re_185 li_Re_at (nr rfl rfl) rfl rfl rfl (nl rfl) (re_at hg hR hp) ?_
    rintro _ q1 ⟨rfl, hq1⟩
    have hq1 := hq1.symm
    subst hq1
    show rX E _ 5 [some (.inr (some E.1.length)), some (.inl p), some (.inl i), none] [.inl (atI M p)] _ _
    rw [e]
    refine rx (xs_istore_n dm_Re_length_5 (by decide)) ?_
    show rX E _ 6 [some (.inr (some E.1.length)), some (.inl p), some (.inl i), some (.inl (-1))] [] _ _
    refine rx (xs_iload_n dm_Re_length_6 rfl) ?_
    refine rx (xs_if_lt_t (tgt := 24) dm_Re_length_7 rfl (by unfold ir; omega) (by decide)) ?_
    refine rx (xs_iconst dm_Re_length_24) ?_
    refine rx (xs_goto (tgt := 38) dm_Re_length_25 rfl) ?_
    exact rri dm_Re_length_38 rfl ⟨vi (by unfold st_length prt; rw [ho]), rfl⟩
  | some x =>
    obtain ⟨o, e, h1, hob, hgo⟩ := atI_some hg hR ho
    have hhl := hob.2.2.2.1
    have hpr : prt M p i = rowI x i := by unfold prt; rw [ho]
    show rX E _ 0 [some (.inr (some E.1.length)), some (.inl p), some (.inl i), none] [] _ _
    refine rx (xs_aload_n dm_Re_length_0 rfl) ?_
    refine rx (xs_iload_n dm_Re_length_1 rfl) ?_
    refine rcV (as := [.inl p]) (rest := []) dm_Re_length_2 lc_Re_at lm_Re_185 li_Re_at (nr rfl rfl) rfl rfl rfl (nl rfl) (re_at hg hR hp) ?_
    rintro _ q1 ⟨rfl, hq1⟩
    have hq1 := hq1.symm
    subst hq1
    show rX E _ 5 [some (.inr (some E.1.length)), some (.inl p), some (.inl i), none] [.inl (atI M p)] _ _
    rw [e]
    refine rx (xs_istore_n dm_Re_length_5 (by decide)) ?_
    show rX E _ 6 [some (.inr (some E.1.length)), some (.inl p), some (.inl i), some (.inl (o : Int))] [] _ _
    refine rx (xs_iload_n dm_Re_length_6 rfl) ?_
    refine rx (xs_if_lt_f (tgt := 24) dm_Re_length_7 rfl (by unfold ir; omega) (by omega)) ?_
    cases hro : rowI x i with
    | none =>
      have hno := rowI_no hro
      have hst : st_length M p i = -1 := by unfold st_length; rw [hpr, hro]
      refine rx (xs_iload_n dm_Re_length_10 rfl) ?_
      refine xx_if_lt (tgt := 24) dm_Re_length_11 rfl hi (fun hc => ?_) (fun hc => ?_)
      · change rX E _ 24 _ _ _ _
        refine rx (xs_iconst dm_Re_length_24) ?_
        refine rx (xs_goto (tgt := 38) dm_Re_length_25 rfl) ?_
        exact rri dm_Re_length_38 rfl ⟨vi hst.symm, rfl⟩
      · change rX E _ 14 _ _ _ _
        refine rx (xs_iload_n dm_Re_length_14 rfl) ?_
        refine rx (xs_aload_n dm_Re_length_15 rfl) ?_
        refine rx (rg (v := .inr (some (rA E 3))) dm_Re_length_16 lf_Re_19 rfl) ?_
        refine rx (xs_iload_n dm_Re_length_19 rfl) ?_
        refine rx (rlv 3 (x.2.2.length : Int) (by decide) dm_Re_length_20 (by omega) (by show _ < ((30 : Nat) : Int); omega) (by rw [Int.toNat_natCast]; exact hob.2.2.1)) ?_
        refine rx (xs_icmp_le_f (tgt := 28) dm_Re_length_21 rfl hi (by unfold ir; omega) (by omega)) ?_
        refine rx (xs_iconst dm_Re_length_24) ?_
        refine rx (xs_goto (tgt := 38) dm_Re_length_25 rfl) ?_
        exact rri dm_Re_length_38 rfl ⟨vi hst.symm, rfl⟩
    | some l =>
      obtain ⟨j, hj, hj2, hj3, rr⟩ := rowI_ob hob hro
      have hst : st_length M p i = l.length := by unfold st_length; rw [hpr, hro]
      refine rx (xs_iload_n dm_Re_length_10 rfl) ?_
      refine rx (xs_if_lt_f (tgt := 24) dm_Re_length_11 rfl (by unfold ir; omega) (by omega)) ?_
      refine rx (xs_iload_n dm_Re_length_14 rfl) ?_
      refine rx (xs_aload_n dm_Re_length_15 rfl) ?_
      refine rx (rg (v := .inr (some (rA E 3))) dm_Re_length_16 lf_Re_19 rfl) ?_
      refine rx (xs_iload_n dm_Re_length_19 rfl) ?_
      refine rx (rlv 3 (x.2.2.length : Int) (by decide) dm_Re_length_20 (by omega) (by show _ < ((30 : Nat) : Int); omega) (by rw [Int.toNat_natCast]; exact hob.2.2.1)) ?_
      refine rx (xs_icmp_le_t (tgt := 28) dm_Re_length_21 rfl (by unfold ir; omega) (by unfold ir; omega) (by omega)) ?_
      refine rx (xs_aload_n dm_Re_length_28 rfl) ?_
      refine rx (rg (v := .inr (some (rA E 1))) dm_Re_length_29 lf_Re_13 rfl) ?_
      refine rx (xs_iconst dm_Re_length_32) ?_
      refine rx (xs_iload_n dm_Re_length_33 rfl) ?_
      refine rx (xs_imul dm_Re_length_34) ?_
      refine rx (xs_iload_n dm_Re_length_35 rfl) ?_
      refine rx (xs_iadd dm_Re_length_36) ?_
      refine rx (rlv 1 (l.length : Int) (by decide) dm_Re_length_37 (by omega) (by show _ < ((120 : Nat) : Int); omega) (by rw [show (4 * (o : Int) + i).toNat = 4 * o + j by omega]; exact rr.1)) ?_
      exact rri dm_Re_length_38 rfl ⟨vi hst.symm, rfl⟩
set_option maxHeartbeats 4000000 in
set_option maxRecDepth 100000 in
theorem re_symbol {q : rS} {M : mS} {p i j : Int} (hg : gM M) (hR : Rl q M) (hp : ir p) (hi : ir i) (hj : ir j) : rM mm_Re_symbol [.inl p, .inl i, .inl j] q (fun r q' => r = some (.inl (st_symbol M p i j)) ∧ q' = q) := by
  refine rm rfl (nl rfl) (fun E => ?_)
  have hai : ir (atI M p) := by
    cases ho : ob M p with
    | none => rw [atI_none hg ho]; unfold ir; omega
    | some x => obtain ⟨o, e, h1, -⟩ := atI_some hg hR ho; rw [e]; unfold ir; omega
  show rX E _ 0 [some (.inr (some E.1.length)), some (.inl p), some (.inl i), some (.inl j), none, none] [] _ _
  refine rx (xs_aload_n dm_Re_symbol_0 rfl) ?_
  refine rx (xs_iload_n dm_Re_symbol_1 rfl) ?_
  refine rx (xs_iload_n dm_Re_symbol_2 rfl) ?_
  refine rcV (as := [.inl p, .inl i]) (rest := []) dm_Re_symbol_3 lc_Re_length lm_Re_188 li_Re_length (nr rfl rfl) rfl rfl rfl (nl rfl) (re_length hg hR hp hi) ?_
  rintro _ q1 ⟨rfl, hq1⟩
  have hq1 := hq1.symm
  subst hq1
  show rX E _ 6 [some (.inr (some E.1.length)), some (.inl p), some (.inl i), some (.inl j), none, none] [.inl (st_length M p i)] _ _
  refine rx (xs_istore dm_Re_symbol_6 (by decide)) ?_
  show rX E _ 8 [some (.inr (some E.1.length)), some (.inl p), some (.inl i), some (.inl j), some (.inl (st_length M p i)), none] [] _ _
  refine rx (xs_aload_n dm_Re_symbol_8 rfl) ?_
  refine rx (xs_iload_n dm_Re_symbol_9 rfl) ?_
  refine rcV (as := [.inl p]) (rest := []) dm_Re_symbol_10 lc_Re_at lm_Re_185 li_Re_at (nr rfl rfl) rfl rfl rfl (nl rfl) (re_at hg hR hp) ?_
  rintro _ q1 ⟨rfl, hq1⟩
  have hq1 := hq1.symm
  subst hq1
  show rX E _ 13 [some (.inr (some E.1.length)), some (.inl p), some (.inl i), some (.inl j), some (.inl (st_length M p i)), none] [.inl (atI M p)] _ _
  refine rx (xs_istore dm_Re_symbol_13 (by decide)) ?_
  show rX E _ 15 [some (.inr (some E.1.length)), some (.inl p), some (.inl i), some (.inl j), some (.inl (st_length M p i)), some (.inl (atI M p))] [] _ _
  refine rx (xs_iload_n dm_Re_symbol_15 rfl) ?_
  cases hpr : prt M p i with
  | none =>
    have hst : st_symbol M p i j = -1 := by unfold st_symbol; rw [hpr]
    have hsl : st_length M p i = -1 := by unfold st_length; rw [hpr]
    rw [hsl]
    refine xx_if_lt (tgt := 25) dm_Re_symbol_16 rfl hj (fun hc => ?_) (fun hc => ?_)
    · change rX E _ 25 _ _ _ _
      refine rx (xs_iconst dm_Re_symbol_25) ?_
      refine rx (xs_goto (tgt := 42) dm_Re_symbol_26 rfl) ?_
      exact rri dm_Re_symbol_42 rfl ⟨vi hst.symm, rfl⟩
    · change rX E _ 19 _ _ _ _
      refine rx (xs_iload_n dm_Re_symbol_19 rfl) ?_
      refine rx (xs_iload dm_Re_symbol_20 rfl) ?_
      refine rx (xs_icmp_lt_f (tgt := 29) dm_Re_symbol_22 rfl hj (by unfold ir; omega) (by omega)) ?_
      refine rx (xs_iconst dm_Re_symbol_25) ?_
      refine rx (xs_goto (tgt := 42) dm_Re_symbol_26 rfl) ?_
      exact rri dm_Re_symbol_42 rfl ⟨vi hst.symm, rfl⟩
  | some l =>
    obtain ⟨x, ho, hro⟩ : ∃ x, ob M p = some x ∧ rowI x i = some l := by
      unfold prt at hpr
      cases ho : ob M p with
      | none => rw [ho] at hpr; simp at hpr
      | some x => rw [ho] at hpr; exact ⟨x, rfl, hpr⟩
    obtain ⟨o, e, h1, hob, hgo⟩ := atI_some hg hR ho
    obtain ⟨n, hn, hn2, hn3, rr⟩ := rowI_ob hob hro
    have hsl : st_length M p i = l.length := by unfold st_length; rw [hpr]
    have hst : st_symbol M p i j = if j < 0 ∨ (l.length : Int) ≤ j then -1 else l.getD j.toNat 0 := by unfold st_symbol; rw [hpr]
    have hll := rr.2.2
    rw [hsl, e]
    refine xx_if_lt (tgt := 25) dm_Re_symbol_16 rfl hj (fun hc => ?_) (fun hc => ?_)
    · change rX E _ 25 _ _ _ _
      refine rx (xs_iconst dm_Re_symbol_25) ?_
      refine rx (xs_goto (tgt := 42) dm_Re_symbol_26 rfl) ?_
      exact rri dm_Re_symbol_42 rfl ⟨vi (by rw [hst, if_pos (Or.inl hc)]), rfl⟩
    · change rX E _ 19 _ _ _ _
      refine rx (xs_iload_n dm_Re_symbol_19 rfl) ?_
      refine rx (xs_iload dm_Re_symbol_20 rfl) ?_
      refine xx_icmp_lt (tgt := 29) dm_Re_symbol_22 rfl hj (by unfold ir; omega) (fun hc2 => ?_) (fun hc2 => ?_)
      · change rX E _ 29 _ _ _ _
        obtain ⟨y, hy⟩ : ∃ y, l[j.toNat]? = some y := ⟨_, List.getElem?_eq_getElem (by omega)⟩
        refine rx (xs_aload_n dm_Re_symbol_29 rfl) ?_
        refine rx (rg (v := .inr (some (rA E 0))) dm_Re_symbol_30 lf_Re_7 rfl) ?_
        refine rx (xs_iload dm_Re_symbol_33 rfl) ?_
        refine rx (xs_iload_n dm_Re_symbol_35 rfl) ?_
        refine rcS (as := [.inl (o : Int), .inl i]) (rest := [.inr (some (rA E 0))]) dm_Re_symbol_36 lc_Re_base lm_Re_54 li_Re_base (nr rfl rfl) rfl rfl (nl rfl) (re_base _ _) ?_
        show rX E _ 39 [some (.inr (some E.1.length)), some (.inl p), some (.inl i), some (.inl j), some (.inl (l.length : Int)), some (.inl (o : Int))] [.inl (160 * (o : Int) + 40 * i), .inr (some (rA E 0))] _ _
        refine rx (xs_iload_n dm_Re_symbol_39 rfl) ?_
        refine rx (xs_iadd dm_Re_symbol_40) ?_
        refine rx (rlv 0 y (by decide) dm_Re_symbol_41 (by omega) (by show _ < ((10000 : Nat) : Int); omega) (by rw [show (160 * (o : Int) + 40 * i + j).toNat = 160 * o + 40 * n + j.toNat by omega]; exact rr.2.1 _ y hy)) ?_
        exact rri dm_Re_symbol_42 rfl ⟨vi (by rw [hst, if_neg (by omega), List.getD_eq_getElem?_getD, hy]; rfl), rfl⟩
      · change rX E _ 25 _ _ _ _
        refine rx (xs_iconst dm_Re_symbol_25) ?_
        refine rx (xs_goto (tgt := 42) dm_Re_symbol_26 rfl) ?_
        exact rri dm_Re_symbol_42 rfl ⟨vi (by rw [hst, if_pos (Or.inr (by omega))]), rfl⟩
