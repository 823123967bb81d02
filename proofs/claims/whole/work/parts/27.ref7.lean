/-- the type variables of a term all stand in T; the symbol ahead tells names from types -/
def tvC (T : List Int) : List Int → Int → Prop
  | [], _ => True
  | s :: l, p => ((s < 10 ∧ p ≠ 10 ∧ p ≠ 11) ∧ 2 ≤ s → s ∈ T) ∧ tvC T l s
theorem tvC_hd {T r : List Int} (h : hdT r) (p p' : Int) : tvC T r p ↔ tvC T r p' := by
  rcases h with h | ⟨s, l, h, hs⟩
  · subst h; rfl
  · subst h
    unfold tvC
    have h1 : ∀ x : Int, ((s < 10 ∧ x ≠ 10 ∧ x ≠ 11) ∧ 2 ≤ s → s ∈ T) ↔ True := fun x => ⟨fun _ => trivial, fun _ h => by omega⟩
    rw [h1, h1]
theorem tvC_up {T l : List Int} {s : Int} (hs : ¬ s < 10) (p : Int) : tvC T (s :: l) p ↔ tvC T l s := by
  rw [tvC]
  exact ⟨fun h => h.2, fun h => ⟨fun h2 => by omega, h⟩⟩
theorem tvC_nm {T l : List Int} {s p : Int} (hp : p = 10 ∨ p = 11) : tvC T (s :: l) p ↔ tvC T l s := by
  rw [tvC]
  exact ⟨fun h => h.2, fun h => ⟨fun h2 => by omega, h⟩⟩
theorem tvC_low {T l r : List Int} (hl : ∀ s ∈ l, s < 10) (hr : hdT r) : ∀ p, p ≠ 10 → p ≠ 11 → ∀ p', (tvC T (l ++ r) p ↔ (∀ s ∈ l, 2 ≤ s → s ∈ T) ∧ tvC T r p') := by
  induction l with
  | nil => intro p _ _ p'; simp; exact tvC_hd hr p p'
  | cons s l ih =>
    intro p h10 h11 p'
    have h0 := hl s List.mem_cons_self
    have i1 := ih (fun z hz => hl z (List.mem_cons_of_mem _ hz)) s (by omega) (by omega) p'
    rw [List.cons_append, tvC, i1]
    constructor
    · rintro ⟨a, b, c⟩
      refine ⟨fun z hz => ?_, c⟩
      rcases List.mem_cons.mp hz with e | e
      · subst e; exact fun h2 => a ⟨⟨h0, h10, h11⟩, h2⟩
      · exact b z e
    · rintro ⟨a, c⟩
      exact ⟨fun h2 => a s List.mem_cons_self h2.2, fun z hz => a z (List.mem_cons_of_mem _ hz), c⟩
def clC (T l : List Int) : Prop := (∀ s ∈ l, s ≠ 10) ∧ tvC T l 0
set_option maxHeartbeats 4000000 in
set_option maxRecDepth 100000 in
theorem re_closed_i {q : rS} {f g tf te nx : Int} {pT : Nat} {T : List Int} {R : Int} {o6 o7 : Option xV} (E : rE) (hT : sg q pT T) (htf : tf = pT) (hte : te = (pT : Int) + (T.length : Int)) (hT1 : pT + T.length ≤ 10000) (hTi : ∀ s ∈ T, ir s) (l : List Int) : ∀ (k : Nat) (kk : Int), kk = k → sg q k l → nx = (k : Int) + (l.length : Int) → k + l.length ≤ 10000 → (∀ s ∈ l, ir s) → (¬ (∀ s ∈ l, 2 ≤ s → s ∈ T) → R = 0) → ((∀ s ∈ l, 2 ≤ s → s ∈ T) → ∀ kk', rX E mm_Re_closed 123 [some (.inr (some E.1.length)), some (.inl f), some (.inl g), some (.inl tf), some (.inl te), some (.inl nx), o6, o7, some (.inl kk')] [] q (fun r q' => r = some (.inl R) ∧ q' = q)) → rX E mm_Re_closed 80 [some (.inr (some E.1.length)), some (.inl f), some (.inl g), some (.inl tf), some (.inl te), some (.inl nx), o6, o7, some (.inl kk)] [] q (fun r q' => r = some (.inl R) ∧ q' = q) := by
  induction l with
  | nil =>
    intro k kk hkk hs hnx h1 hi hR hQ
    simp at hnx
    refine rx (xs_iload dm_Re_closed_80 rfl) ?_
    refine rx (xs_iload dm_Re_closed_82 rfl) ?_
    refine rx (xs_icmp_ge_t (tgt := 123) dm_Re_closed_84 rfl (by unfold ir; omega) (by unfold ir; omega) (by omega)) ?_
    exact hQ (by simp) _
  | cons s l ih =>
    intro k kk hkk hs hnx h1 hi hR hQ
    simp only [List.length_cons] at hnx h1
    have his : ir s := hi s List.mem_cons_self
    have hi2 : ∀ z ∈ l, ir z := fun z hz => hi z (List.mem_cons_of_mem _ hz)
    refine rx (xs_iload dm_Re_closed_80 rfl) ?_
    refine rx (xs_iload dm_Re_closed_82 rfl) ?_
    refine rx (xs_icmp_ge_f (tgt := 123) dm_Re_closed_84 rfl (by unfold ir; omega) (by unfold ir; omega) (by omega)) ?_
    refine rx (xs_aload_n dm_Re_closed_87 rfl) ?_
    refine rx (rg (v := .inr (some (rA E 0))) dm_Re_closed_88 lf_Re_7 rfl) ?_
    refine rx (xs_iload dm_Re_closed_91 rfl) ?_
    refine rx (rlv 0 s (by decide) dm_Re_closed_93 (by omega) (by show _ < ((10000 : Nat) : Int); omega) (by rw [hkk, Int.toNat_natCast]; exact sg_hd hs)) ?_
    refine rx (xs_iconst dm_Re_closed_94) ?_
    refine xx_icmp_lt (tgt := 117) dm_Re_closed_95 rfl his (by unfold ir; omega) (fun hc => ?_) (fun hc => ?_)
    · change rX E _ 117 _ _ _ _
      refine rx (xs_iinc dm_Re_closed_117 rfl (by decide)) ?_
      show rX E _ 120 [some (.inr (some E.1.length)), some (.inl f), some (.inl g), some (.inl tf), some (.inl te), some (.inl nx), o6, o7, some (.inl (kk + 1))] [] _ _
      refine rx (xs_goto (tgt := 80) dm_Re_closed_120 rfl) ?_
      exact ih (k + 1) _ (by omega) (sg_tl hs) (by omega) (by omega) hi2 (fun h => hR (fun h2 => h (fun z hz => h2 z (List.mem_cons_of_mem _ hz)))) (fun h kk' => hQ (fun z hz => by
        rcases List.mem_cons.mp hz with e | e
        · subst e; exact fun h2 => by omega
        · exact h z e) kk')
    · change rX E _ 98 _ _ _ _
      refine rx (xs_aload_n dm_Re_closed_98 rfl) ?_
      refine rx (xs_aload_n dm_Re_closed_99 rfl) ?_
      refine rx (rg (v := .inr (some (rA E 0))) dm_Re_closed_100 lf_Re_7 rfl) ?_
      refine rx (xs_iload dm_Re_closed_103 rfl) ?_
      refine rx (rlv 0 s (by decide) dm_Re_closed_105 (by omega) (by show _ < ((10000 : Nat) : Int); omega) (by rw [hkk, Int.toNat_natCast]; exact sg_hd hs)) ?_
      refine rx (xs_iload_n dm_Re_closed_106 rfl) ?_
      refine rx (xs_iload dm_Re_closed_107 rfl) ?_
      refine rcV (as := [.inl s, .inl tf, .inl te]) (rest := []) dm_Re_closed_109 lc_Re_occurs lm_Re_155 li_Re_occurs (nr rfl rfl) rfl rfl rfl (nl rfl) (re_occurs hT his htf hte hT1 hTi) ?_
      rintro _ q1 ⟨rfl, hq1⟩
      have hq1 := hq1.symm
      subst hq1
      show rX E _ 112 [some (.inr (some E.1.length)), some (.inl f), some (.inl g), some (.inl tf), some (.inl te), some (.inl nx), o6, o7, some (.inl kk)] [.inl (if s ∈ T then 1 else 0)] _ _
      by_cases hm : s ∈ T
      · rw [if_pos hm]
        refine rx (xs_if_ne_t (tgt := 117) dm_Re_closed_112 rfl (by unfold ir; omega) (by decide)) ?_
        refine rx (xs_iinc dm_Re_closed_117 rfl (by decide)) ?_
        show rX E _ 120 [some (.inr (some E.1.length)), some (.inl f), some (.inl g), some (.inl tf), some (.inl te), some (.inl nx), o6, o7, some (.inl (kk + 1))] [] _ _
        refine rx (xs_goto (tgt := 80) dm_Re_closed_120 rfl) ?_
        exact ih (k + 1) _ (by omega) (sg_tl hs) (by omega) (by omega) hi2 (fun h => hR (fun h2 => h (fun z hz => h2 z (List.mem_cons_of_mem _ hz)))) (fun h kk' => hQ (fun z hz => by
          rcases List.mem_cons.mp hz with e | e
          · subst e; exact fun _ => hm
          · exact h z e) kk')
      · rw [if_neg hm]
        refine rx (xs_if_ne_f (tgt := 117) dm_Re_closed_112 rfl (by unfold ir; omega) rfl) ?_
        refine rx (xs_iconst dm_Re_closed_115) ?_
        exact rrz dm_Re_closed_116 rfl (Or.inl rfl) ⟨vi (hR (fun h2 => hm (h2 s List.mem_cons_self (by omega)))).symm, rfl⟩
set_option maxHeartbeats 4000000 in
set_option maxRecDepth 100000 in
theorem re_closed_l {q : rS} {f g tf te : Int} {pT : Nat} {T : List Int} {R : Int} (E : rE) (hT : sg q pT T) (htf : tf = pT) (hte : te = (pT : Int) + (T.length : Int)) (hT1 : pT + T.length ≤ 10000) (hTi : ∀ s ∈ T, ir s) : ∀ (N : Nat) (l : List Int) (n k : Nat) (pp : Int) (o6 o7 o8 : Option xV), l.length < N → pp = k → sg q k l → tms n l → g = (k : Int) + (l.length : Int) → k + l.length ≤ 10000 → (∀ s ∈ l, ir s) → (clC T l → R = 1) → (¬ clC T l → R = 0) → rX E mm_Re_closed 3 [some (.inr (some E.1.length)), some (.inl f), some (.inl g), some (.inl tf), some (.inl te), some (.inl pp), o6, o7, o8] [] q (fun r q' => r = some (.inl R) ∧ q' = q) := by
  intro N
  induction N with
  | zero => intro l n k pp o6 o7 o8 hN; omega
  | succ N ih =>
    intro l n k pp o6 o7 o8 hN hpp hs ht hg h1 hi hR1 hR0
    cases n with
    | zero =>
      have hl : l = [] := ht
      subst hl
      simp at hg
      refine rx (xs_iload dm_Re_closed_3 rfl) ?_
      refine rx (xs_iload_n dm_Re_closed_5 rfl) ?_
      refine rx (xs_icmp_ge_t (tgt := 126) dm_Re_closed_6 rfl (by unfold ir; omega) (by unfold ir; omega) (by omega)) ?_
      refine rx (xs_iconst dm_Re_closed_126) ?_
      exact rrz dm_Re_closed_127 rfl (Or.inr rfl) ⟨vi (hR1 ⟨by simp, trivial⟩).symm, rfl⟩
    | succ n =>
    obtain ⟨G, t, a, r, htm, hl, hr⟩ := ht
    subst hl
    have hrh := tms_hdT hr
    rcases isTm_inv htm with ⟨m, m0, m7, ha, e⟩ | ⟨m, m0, m7, ha, e⟩ | ⟨s, ha, e, -⟩ | ⟨d, hd, ha, e⟩ | ⟨f1, x1, s, hs1, ha1, hf1, hx1, e⟩ | ⟨s, u, b, hs1, hb1, hu, e, -⟩
    · subst e
      simp only [List.cons_append, List.append_assoc, List.nil_append, List.length_append, List.length_cons, List.length_nil] at hs hN hg h1 hi hR1 hR0
      refine rx (xs_iload dm_Re_closed_3 rfl) ?_
      refine rx (xs_iload_n dm_Re_closed_5 rfl) ?_
      refine rx (xs_icmp_ge_f (tgt := 126) dm_Re_closed_6 rfl (by unfold ir; omega) (by unfold ir; omega) (by omega)) ?_
      refine rx (xs_aload_n dm_Re_closed_9 rfl) ?_
      refine rx (rg (v := .inr (some (rA E 0))) dm_Re_closed_10 lf_Re_7 rfl) ?_
      refine rx (xs_iload dm_Re_closed_13 rfl) ?_
      refine rx (rlv 0 10 (by decide) dm_Re_closed_15 (by omega) (by show _ < ((10000 : Nat) : Int); omega) (by rw [hpp, Int.toNat_natCast]; exact sg_hd hs)) ?_
      refine rx (xs_istore dm_Re_closed_16 (by decide)) ?_
      show rX E _ 18 [some (.inr (some E.1.length)), some (.inl f), some (.inl g), some (.inl tf), some (.inl te), some (.inl pp), some (.inl 10), o7, o8] [] _ _
      refine rx (xs_iload dm_Re_closed_18 rfl) ?_
      refine rx (xs_bipush dm_Re_closed_20 (by decide)) ?_
      refine rx (xs_icmp_ne_f (tgt := 27) dm_Re_closed_22 rfl (by unfold ir; omega) (by unfold ir; omega) (by decide)) ?_
      refine rx (xs_iconst dm_Re_closed_25) ?_
      exact rrz dm_Re_closed_26 rfl (Or.inl rfl) ⟨vi (hR0 (fun h => h.1 10 List.mem_cons_self rfl)).symm, rfl⟩
    · subst e
      simp only [List.cons_append, List.append_assoc, List.nil_append, List.length_append, List.length_cons, List.length_nil] at hs hN hg h1 hi hR1 hR0
      refine rx (xs_iload dm_Re_closed_3 rfl) ?_
      refine rx (xs_iload_n dm_Re_closed_5 rfl) ?_
      refine rx (xs_icmp_ge_f (tgt := 126) dm_Re_closed_6 rfl (by unfold ir; omega) (by unfold ir; omega) (by omega)) ?_
      refine rx (xs_aload_n dm_Re_closed_9 rfl) ?_
      refine rx (rg (v := .inr (some (rA E 0))) dm_Re_closed_10 lf_Re_7 rfl) ?_
      refine rx (xs_iload dm_Re_closed_13 rfl) ?_
      refine rx (rlv 0 11 (by decide) dm_Re_closed_15 (by omega) (by show _ < ((10000 : Nat) : Int); omega) (by rw [hpp, Int.toNat_natCast]; exact sg_hd hs)) ?_
      refine rx (xs_istore dm_Re_closed_16 (by decide)) ?_
      show rX E _ 18 [some (.inr (some E.1.length)), some (.inl f), some (.inl g), some (.inl tf), some (.inl te), some (.inl pp), some (.inl 11), o7, o8] [] _ _
      refine rx (xs_iload dm_Re_closed_18 rfl) ?_
      refine rx (xs_bipush dm_Re_closed_20 (by decide)) ?_
      have hcl : clC T (11 :: m :: (a ++ r)) ↔ (∀ z ∈ a, 2 ≤ z → z ∈ T) ∧ clC T r := by
        unfold clC
        rw [tvC_up (by decide), tvC_nm (Or.inr rfl), tvC_low (isTy_low ha) hrh _ (by omega) (by omega) 0]
        constructor
        · rintro ⟨h2, h3, h4⟩
          exact ⟨h3, fun z hz => h2 z (by simp [hz]), h4⟩
        · rintro ⟨h3, h2, h4⟩
          refine ⟨fun z hz => ?_, h3, h4⟩
          simp at hz
          rcases hz with hz | hz | hz | hz
          · omega
          · omega
          · have := isTy_sym ha z hz; omega
          · exact h2 z hz
      rw [hcl] at hR1 hR0
      refine rx (xs_icmp_ne_t (tgt := 27) dm_Re_closed_22 rfl (by unfold ir; omega) (by unfold ir; omega) (by decide)) ?_
      refine rx (xs_iload dm_Re_closed_27 rfl) ?_
      refine rx (xs_bipush dm_Re_closed_29 (by decide)) ?_
      refine rx (xs_icmp_ne_f (tgt := 41) dm_Re_closed_31 rfl (by unfold ir; omega) (by unfold ir; omega) (by decide)) ?_
      refine rx (xs_iload dm_Re_closed_34 rfl) ?_
      refine rx (xs_iconst dm_Re_closed_36) ?_
      refine rx (xs_iadd dm_Re_closed_37) ?_
      refine rx (xs_goto (tgt := 45) dm_Re_closed_38 rfl) ?_
      refine rx (xs_istore dm_Re_closed_45 (by decide)) ?_
      show rX E _ 47 [some (.inr (some E.1.length)), some (.inl f), some (.inl g), some (.inl tf), some (.inl te), some (.inl pp), some (.inl 11), some (.inl (pp + 2)), o8] [] _ _
      refine rx (xs_iload dm_Re_closed_47 rfl) ?_
      refine rx (xs_bipush dm_Re_closed_49 (by decide)) ?_
      refine rx (xs_icmp_eq_t (tgt := 61) dm_Re_closed_51 rfl (by unfold ir; omega) (by unfold ir; omega) (by decide)) ?_
      refine rx (xs_aload_n dm_Re_closed_61 rfl) ?_
      refine rx (xs_iload dm_Re_closed_62 rfl) ?_
      have hs2 := sg_tl (sg_tl hs)
      rw [sg_app] at hs2
      refine rcV (as := [.inl (pp + 2)]) (rest := []) dm_Re_closed_64 lc_Re_skipType lm_Re_36 li_Re_skipType (nr rfl rfl) rfl rfl rfl (nl rfl) (re_skipType (p := k + 1 + 1) hs2.1 ha (by omega) (by omega)) ?_
      rintro _ q1 ⟨rfl, hq1⟩
      have hq1 := hq1.symm
      subst hq1
      show rX E _ 67 [some (.inr (some E.1.length)), some (.inl f), some (.inl g), some (.inl tf), some (.inl te), some (.inl pp), some (.inl 11), some (.inl (pp + 2)), o8] [.inl (((k + 1 + 1 : Nat) : Int) + (a.length : Int))] _ _
      refine rx (xs_goto (tgt := 74) dm_Re_closed_67 rfl) ?_
      refine rx (xs_istore dm_Re_closed_74 (by decide)) ?_
      show rX E _ 76 [some (.inr (some E.1.length)), some (.inl f), some (.inl g), some (.inl tf), some (.inl te), some (.inl (((k + 1 + 1 : Nat) : Int) + (a.length : Int))), some (.inl 11), some (.inl (pp + 2)), o8] [] _ _
      refine rx (xs_iload dm_Re_closed_76 rfl) ?_
      refine rx (xs_istore dm_Re_closed_78 (by decide)) ?_
      show rX E _ 80 [some (.inr (some E.1.length)), some (.inl f), some (.inl g), some (.inl tf), some (.inl te), some (.inl (((k + 1 + 1 : Nat) : Int) + (a.length : Int))), some (.inl 11), some (.inl (pp + 2)), some (.inl (pp + 2))] [] _ _
      refine re_closed_i E hT htf hte hT1 hTi a (k + 1 + 1) _ (by omega) hs2.1 (by omega) (by omega) (isTy_ir ha) (fun h => hR0 (fun h2 => h h2.1)) (fun h kk' => ?_)
      refine rx (xs_goto (tgt := 3) dm_Re_closed_123 rfl) ?_
      exact ih r n (k + 1 + 1 + a.length) _ _ _ _ (by omega) (by omega) hs2.2 hr (by omega) (by omega) (fun z hz => hi z (by simp [hz])) (fun h2 => hR1 ⟨h, h2⟩) (fun h2 => hR0 (fun h3 => h2 h3.2))
    · subst e
      simp only [List.cons_append, List.append_assoc, List.nil_append, List.length_append, List.length_cons, List.length_nil] at hs hN hg h1 hi hR1 hR0
      refine rx (xs_iload dm_Re_closed_3 rfl) ?_
      refine rx (xs_iload_n dm_Re_closed_5 rfl) ?_
      refine rx (xs_icmp_ge_f (tgt := 126) dm_Re_closed_6 rfl (by unfold ir; omega) (by unfold ir; omega) (by omega)) ?_
      refine rx (xs_aload_n dm_Re_closed_9 rfl) ?_
      refine rx (rg (v := .inr (some (rA E 0))) dm_Re_closed_10 lf_Re_7 rfl) ?_
      refine rx (xs_iload dm_Re_closed_13 rfl) ?_
      refine rx (rlv 0 11 (by decide) dm_Re_closed_15 (by omega) (by show _ < ((10000 : Nat) : Int); omega) (by rw [hpp, Int.toNat_natCast]; exact sg_hd hs)) ?_
      refine rx (xs_istore dm_Re_closed_16 (by decide)) ?_
      show rX E _ 18 [some (.inr (some E.1.length)), some (.inl f), some (.inl g), some (.inl tf), some (.inl te), some (.inl pp), some (.inl 11), o7, o8] [] _ _
      refine rx (xs_iload dm_Re_closed_18 rfl) ?_
      refine rx (xs_bipush dm_Re_closed_20 (by decide)) ?_
      have hcl : clC T (11 :: 0 :: (s ++ r)) ↔ (∀ z ∈ s, 2 ≤ z → z ∈ T) ∧ clC T r := by
        unfold clC
        rw [tvC_up (by decide), tvC_nm (Or.inr rfl), tvC_low (isTy_low ha) hrh _ (by omega) (by omega) 0]
        constructor
        · rintro ⟨h2, h3, h4⟩
          exact ⟨h3, fun z hz => h2 z (by simp [hz]), h4⟩
        · rintro ⟨h3, h2, h4⟩
          refine ⟨fun z hz => ?_, h3, h4⟩
          simp at hz
          rcases hz with hz | hz | hz | hz
          · omega
          · omega
          · have := isTy_sym ha z hz; omega
          · exact h2 z hz
      rw [hcl] at hR1 hR0
      refine rx (xs_icmp_ne_t (tgt := 27) dm_Re_closed_22 rfl (by unfold ir; omega) (by unfold ir; omega) (by decide)) ?_
      refine rx (xs_iload dm_Re_closed_27 rfl) ?_
      refine rx (xs_bipush dm_Re_closed_29 (by decide)) ?_
      refine rx (xs_icmp_ne_f (tgt := 41) dm_Re_closed_31 rfl (by unfold ir; omega) (by unfold ir; omega) (by decide)) ?_
      refine rx (xs_iload dm_Re_closed_34 rfl) ?_
      refine rx (xs_iconst dm_Re_closed_36) ?_
      refine rx (xs_iadd dm_Re_closed_37) ?_
      refine rx (xs_goto (tgt := 45) dm_Re_closed_38 rfl) ?_
      refine rx (xs_istore dm_Re_closed_45 (by decide)) ?_
      show rX E _ 47 [some (.inr (some E.1.length)), some (.inl f), some (.inl g), some (.inl tf), some (.inl te), some (.inl pp), some (.inl 11), some (.inl (pp + 2)), o8] [] _ _
      refine rx (xs_iload dm_Re_closed_47 rfl) ?_
      refine rx (xs_bipush dm_Re_closed_49 (by decide)) ?_
      refine rx (xs_icmp_eq_t (tgt := 61) dm_Re_closed_51 rfl (by unfold ir; omega) (by unfold ir; omega) (by decide)) ?_
      refine rx (xs_aload_n dm_Re_closed_61 rfl) ?_
      refine rx (xs_iload dm_Re_closed_62 rfl) ?_
      have hs2 := sg_tl (sg_tl hs)
      rw [sg_app] at hs2
      refine rcV (as := [.inl (pp + 2)]) (rest := []) dm_Re_closed_64 lc_Re_skipType lm_Re_36 li_Re_skipType (nr rfl rfl) rfl rfl rfl (nl rfl) (re_skipType (p := k + 1 + 1) hs2.1 ha (by omega) (by omega)) ?_
      rintro _ q1 ⟨rfl, hq1⟩
      have hq1 := hq1.symm
      subst hq1
      show rX E _ 67 [some (.inr (some E.1.length)), some (.inl f), some (.inl g), some (.inl tf), some (.inl te), some (.inl pp), some (.inl 11), some (.inl (pp + 2)), o8] [.inl (((k + 1 + 1 : Nat) : Int) + (s.length : Int))] _ _
      refine rx (xs_goto (tgt := 74) dm_Re_closed_67 rfl) ?_
      refine rx (xs_istore dm_Re_closed_74 (by decide)) ?_
      show rX E _ 76 [some (.inr (some E.1.length)), some (.inl f), some (.inl g), some (.inl tf), some (.inl te), some (.inl (((k + 1 + 1 : Nat) : Int) + (s.length : Int))), some (.inl 11), some (.inl (pp + 2)), o8] [] _ _
      refine rx (xs_iload dm_Re_closed_76 rfl) ?_
      refine rx (xs_istore dm_Re_closed_78 (by decide)) ?_
      show rX E _ 80 [some (.inr (some E.1.length)), some (.inl f), some (.inl g), some (.inl tf), some (.inl te), some (.inl (((k + 1 + 1 : Nat) : Int) + (s.length : Int))), some (.inl 11), some (.inl (pp + 2)), some (.inl (pp + 2))] [] _ _
      refine re_closed_i E hT htf hte hT1 hTi s (k + 1 + 1) _ (by omega) hs2.1 (by omega) (by omega) (isTy_ir ha) (fun h => hR0 (fun h2 => h h2.1)) (fun h kk' => ?_)
      refine rx (xs_goto (tgt := 3) dm_Re_closed_123 rfl) ?_
      exact ih r n (k + 1 + 1 + s.length) _ _ _ _ (by omega) (by omega) hs2.2 hr (by omega) (by omega) (fun z hz => hi z (by simp [hz])) (fun h2 => hR1 ⟨h, h2⟩) (fun h2 => hR0 (fun h3 => h2 h3.2))
    · subst e
      simp only [List.cons_append, List.append_assoc, List.nil_append, List.length_append, List.length_cons, List.length_nil] at hs hN hg h1 hi hR1 hR0
      refine rx (xs_iload dm_Re_closed_3 rfl) ?_
      refine rx (xs_iload_n dm_Re_closed_5 rfl) ?_
      refine rx (xs_icmp_ge_f (tgt := 126) dm_Re_closed_6 rfl (by unfold ir; omega) (by unfold ir; omega) (by omega)) ?_
      refine rx (xs_aload_n dm_Re_closed_9 rfl) ?_
      refine rx (rg (v := .inr (some (rA E 0))) dm_Re_closed_10 lf_Re_7 rfl) ?_
      refine rx (xs_iload dm_Re_closed_13 rfl) ?_
      refine rx (rlv 0 (20 + (d : Int)) (by decide) dm_Re_closed_15 (by omega) (by show _ < ((10000 : Nat) : Int); omega) (by rw [hpp, Int.toNat_natCast]; exact sg_hd hs)) ?_
      refine rx (xs_istore dm_Re_closed_16 (by decide)) ?_
      show rX E _ 18 [some (.inr (some E.1.length)), some (.inl f), some (.inl g), some (.inl tf), some (.inl te), some (.inl pp), some (.inl (20 + (d : Int))), o7, o8] [] _ _
      refine rx (xs_iload dm_Re_closed_18 rfl) ?_
      refine rx (xs_bipush dm_Re_closed_20 (by decide)) ?_
      have hib : ir (20 + (d : Int)) := hi _ List.mem_cons_self
      have hcl : clC T ((20 + (d : Int)) :: r) ↔ clC T r := by
        unfold clC
        rw [tvC_up (by omega), tvC_hd hrh _ 0]
        constructor
        · rintro ⟨h2, h4⟩
          exact ⟨fun z hz => h2 z (by simp [hz]), h4⟩
        · rintro ⟨h2, h4⟩
          refine ⟨fun z hz => ?_, h4⟩
          simp at hz
          rcases hz with hz | hz
          · omega
          · exact h2 z hz
      rw [hcl] at hR1 hR0
      refine rx (xs_icmp_ne_t (tgt := 27) dm_Re_closed_22 rfl hib (by unfold ir; omega) (by omega)) ?_
      refine rx (xs_iload dm_Re_closed_27 rfl) ?_
      refine rx (xs_bipush dm_Re_closed_29 (by decide)) ?_
      refine rx (xs_icmp_ne_t (tgt := 41) dm_Re_closed_31 rfl hib (by unfold ir; omega) (by omega)) ?_
      refine rx (xs_iload dm_Re_closed_41 rfl) ?_
      refine rx (xs_iconst dm_Re_closed_43) ?_
      refine rx (xs_iadd dm_Re_closed_44) ?_
      refine rx (xs_istore dm_Re_closed_45 (by decide)) ?_
      show rX E _ 47 [some (.inr (some E.1.length)), some (.inl f), some (.inl g), some (.inl tf), some (.inl te), some (.inl pp), some (.inl (20 + (d : Int))), some (.inl (pp + 1)), o8] [] _ _
      refine rx (xs_iload dm_Re_closed_47 rfl) ?_
      refine rx (xs_bipush dm_Re_closed_49 (by decide)) ?_
      refine rx (xs_icmp_eq_f (tgt := 61) dm_Re_closed_51 rfl hib (by unfold ir; omega) (by omega)) ?_
      refine rx (xs_iload dm_Re_closed_54 rfl) ?_
      refine rx (xs_bipush dm_Re_closed_56 (by decide)) ?_
      refine rx (xs_icmp_ne_t (tgt := 70) dm_Re_closed_58 rfl hib (by unfold ir; omega) (by omega)) ?_
      refine rx (xs_iload dm_Re_closed_70 rfl) ?_
      refine rx (xs_iconst dm_Re_closed_72) ?_
      refine rx (xs_iadd dm_Re_closed_73) ?_
      refine rx (xs_istore dm_Re_closed_74 (by decide)) ?_
      show rX E _ 76 [some (.inr (some E.1.length)), some (.inl f), some (.inl g), some (.inl tf), some (.inl te), some (.inl (pp + 1)), some (.inl (20 + (d : Int))), some (.inl (pp + 1)), o8] [] _ _
      refine rx (xs_iload dm_Re_closed_76 rfl) ?_
      refine rx (xs_istore dm_Re_closed_78 (by decide)) ?_
      show rX E _ 80 [some (.inr (some E.1.length)), some (.inl f), some (.inl g), some (.inl tf), some (.inl te), some (.inl (pp + 1)), some (.inl (20 + (d : Int))), some (.inl (pp + 1)), some (.inl (pp + 1))] [] _ _
      refine rx (xs_iload dm_Re_closed_80 rfl) ?_
      refine rx (xs_iload dm_Re_closed_82 rfl) ?_
      refine rx (xs_icmp_ge_t (tgt := 123) dm_Re_closed_84 rfl (by unfold ir; omega) (by unfold ir; omega) (by omega)) ?_
      refine rx (xs_goto (tgt := 3) dm_Re_closed_123 rfl) ?_
      exact ih r n (k + 1) _ _ _ _ (by omega) (by omega) (sg_tl hs) hr (by omega) (by omega) (fun z hz => hi z (by simp [hz])) hR1 hR0
    · subst e
      simp only [List.cons_append, List.append_assoc, List.nil_append, List.length_append, List.length_cons, List.length_nil] at hs hN hg h1 hi hR1 hR0
      refine rx (xs_iload dm_Re_closed_3 rfl) ?_
      refine rx (xs_iload_n dm_Re_closed_5 rfl) ?_
      refine rx (xs_icmp_ge_f (tgt := 126) dm_Re_closed_6 rfl (by unfold ir; omega) (by unfold ir; omega) (by omega)) ?_
      refine rx (xs_aload_n dm_Re_closed_9 rfl) ?_
      refine rx (rg (v := .inr (some (rA E 0))) dm_Re_closed_10 lf_Re_7 rfl) ?_
      refine rx (xs_iload dm_Re_closed_13 rfl) ?_
      refine rx (rlv 0 12 (by decide) dm_Re_closed_15 (by omega) (by show _ < ((10000 : Nat) : Int); omega) (by rw [hpp, Int.toNat_natCast]; exact sg_hd hs)) ?_
      refine rx (xs_istore dm_Re_closed_16 (by decide)) ?_
      show rX E _ 18 [some (.inr (some E.1.length)), some (.inl f), some (.inl g), some (.inl tf), some (.inl te), some (.inl pp), some (.inl 12), o7, o8] [] _ _
      refine rx (xs_iload dm_Re_closed_18 rfl) ?_
      refine rx (xs_bipush dm_Re_closed_20 (by decide)) ?_
      have hcl : clC T (12 :: (f1 ++ (x1 ++ r))) ↔ clC T (f1 ++ (x1 ++ r)) := by
        unfold clC
        rw [tvC_up (by omega), tvC_hd (isTm_hdT hf1 (x1 ++ r)) _ 0]
        constructor
        · rintro ⟨h2, h4⟩
          exact ⟨fun z hz => h2 z (List.mem_cons_of_mem _ hz), h4⟩
        · rintro ⟨h2, h4⟩
          refine ⟨fun z hz => ?_, h4⟩
          rcases List.mem_cons.mp hz with hz | hz
          · omega
          · exact h2 z hz
      rw [hcl] at hR1 hR0
      refine rx (xs_icmp_ne_t (tgt := 27) dm_Re_closed_22 rfl (by unfold ir; omega) (by unfold ir; omega) (by decide)) ?_
      refine rx (xs_iload dm_Re_closed_27 rfl) ?_
      refine rx (xs_bipush dm_Re_closed_29 (by decide)) ?_
      refine rx (xs_icmp_ne_t (tgt := 41) dm_Re_closed_31 rfl (by unfold ir; omega) (by unfold ir; omega) (by decide)) ?_
      refine rx (xs_iload dm_Re_closed_41 rfl) ?_
      refine rx (xs_iconst dm_Re_closed_43) ?_
      refine rx (xs_iadd dm_Re_closed_44) ?_
      refine rx (xs_istore dm_Re_closed_45 (by decide)) ?_
      show rX E _ 47 [some (.inr (some E.1.length)), some (.inl f), some (.inl g), some (.inl tf), some (.inl te), some (.inl pp), some (.inl 12), some (.inl (pp + 1)), o8] [] _ _
      refine rx (xs_iload dm_Re_closed_47 rfl) ?_
      refine rx (xs_bipush dm_Re_closed_49 (by decide)) ?_
      refine rx (xs_icmp_eq_f (tgt := 61) dm_Re_closed_51 rfl (by unfold ir; omega) (by unfold ir; omega) (by decide)) ?_
      refine rx (xs_iload dm_Re_closed_54 rfl) ?_
      refine rx (xs_bipush dm_Re_closed_56 (by decide)) ?_
      refine rx (xs_icmp_ne_t (tgt := 70) dm_Re_closed_58 rfl (by unfold ir; omega) (by unfold ir; omega) (by decide)) ?_
      refine rx (xs_iload dm_Re_closed_70 rfl) ?_
      refine rx (xs_iconst dm_Re_closed_72) ?_
      refine rx (xs_iadd dm_Re_closed_73) ?_
      refine rx (xs_istore dm_Re_closed_74 (by decide)) ?_
      show rX E _ 76 [some (.inr (some E.1.length)), some (.inl f), some (.inl g), some (.inl tf), some (.inl te), some (.inl (pp + 1)), some (.inl 12), some (.inl (pp + 1)), o8] [] _ _
      refine rx (xs_iload dm_Re_closed_76 rfl) ?_
      refine rx (xs_istore dm_Re_closed_78 (by decide)) ?_
      show rX E _ 80 [some (.inr (some E.1.length)), some (.inl f), some (.inl g), some (.inl tf), some (.inl te), some (.inl (pp + 1)), some (.inl 12), some (.inl (pp + 1)), some (.inl (pp + 1))] [] _ _
      refine rx (xs_iload dm_Re_closed_80 rfl) ?_
      refine rx (xs_iload dm_Re_closed_82 rfl) ?_
      refine rx (xs_icmp_ge_t (tgt := 123) dm_Re_closed_84 rfl (by unfold ir; omega) (by unfold ir; omega) (by omega)) ?_
      refine rx (xs_goto (tgt := 3) dm_Re_closed_123 rfl) ?_
      exact ih (f1 ++ (x1 ++ r)) (n + 2) (k + 1) _ _ _ _ (by simp; omega) (by omega) (sg_tl hs) ⟨_, _, _, _, hf1, rfl, _, _, _, _, hx1, rfl, hr⟩ (by simp; omega) (by simp; omega) (fun z hz => hi z (List.mem_cons_of_mem _ hz)) hR1 hR0
    · subst e
      simp only [List.cons_append, List.append_assoc, List.nil_append, List.length_append, List.length_cons, List.length_nil] at hs hN hg h1 hi hR1 hR0
      refine rx (xs_iload dm_Re_closed_3 rfl) ?_
      refine rx (xs_iload_n dm_Re_closed_5 rfl) ?_
      refine rx (xs_icmp_ge_f (tgt := 126) dm_Re_closed_6 rfl (by unfold ir; omega) (by unfold ir; omega) (by omega)) ?_
      refine rx (xs_aload_n dm_Re_closed_9 rfl) ?_
      refine rx (rg (v := .inr (some (rA E 0))) dm_Re_closed_10 lf_Re_7 rfl) ?_
      refine rx (xs_iload dm_Re_closed_13 rfl) ?_
      refine rx (rlv 0 13 (by decide) dm_Re_closed_15 (by omega) (by show _ < ((10000 : Nat) : Int); omega) (by rw [hpp, Int.toNat_natCast]; exact sg_hd hs)) ?_
      refine rx (xs_istore dm_Re_closed_16 (by decide)) ?_
      show rX E _ 18 [some (.inr (some E.1.length)), some (.inl f), some (.inl g), some (.inl tf), some (.inl te), some (.inl pp), some (.inl 13), o7, o8] [] _ _
      refine rx (xs_iload dm_Re_closed_18 rfl) ?_
      refine rx (xs_bipush dm_Re_closed_20 (by decide)) ?_
      have hcl : clC T (13 :: (s ++ (u ++ r))) ↔ (∀ z ∈ s, 2 ≤ z → z ∈ T) ∧ clC T (u ++ r) := by
        unfold clC
        rw [tvC_up (by decide), tvC_low (isTy_low hs1) (isTm_hdT hu r) _ (by decide) (by decide) 0]
        constructor
        · rintro ⟨h2, h3, h4⟩
          exact ⟨h3, fun z hz => h2 z (List.mem_cons_of_mem _ (List.mem_append_right _ hz)), h4⟩
        · rintro ⟨h3, h2, h4⟩
          refine ⟨fun z hz => ?_, h3, h4⟩
          rcases List.mem_cons.mp hz with hz | hz
          · omega
          · rcases List.mem_append.mp hz with hz | hz
            · have := isTy_sym hs1 z hz; omega
            · exact h2 z hz
      rw [hcl] at hR1 hR0
      refine rx (xs_icmp_ne_t (tgt := 27) dm_Re_closed_22 rfl (by unfold ir; omega) (by unfold ir; omega) (by decide)) ?_
      refine rx (xs_iload dm_Re_closed_27 rfl) ?_
      refine rx (xs_bipush dm_Re_closed_29 (by decide)) ?_
      refine rx (xs_icmp_ne_t (tgt := 41) dm_Re_closed_31 rfl (by unfold ir; omega) (by unfold ir; omega) (by decide)) ?_
      refine rx (xs_iload dm_Re_closed_41 rfl) ?_
      refine rx (xs_iconst dm_Re_closed_43) ?_
      refine rx (xs_iadd dm_Re_closed_44) ?_
      refine rx (xs_istore dm_Re_closed_45 (by decide)) ?_
      show rX E _ 47 [some (.inr (some E.1.length)), some (.inl f), some (.inl g), some (.inl tf), some (.inl te), some (.inl pp), some (.inl 13), some (.inl (pp + 1)), o8] [] _ _
      refine rx (xs_iload dm_Re_closed_47 rfl) ?_
      refine rx (xs_bipush dm_Re_closed_49 (by decide)) ?_
      refine rx (xs_icmp_eq_f (tgt := 61) dm_Re_closed_51 rfl (by unfold ir; omega) (by unfold ir; omega) (by decide)) ?_
      refine rx (xs_iload dm_Re_closed_54 rfl) ?_
      refine rx (xs_bipush dm_Re_closed_56 (by decide)) ?_
      refine rx (xs_icmp_ne_f (tgt := 70) dm_Re_closed_58 rfl (by unfold ir; omega) (by unfold ir; omega) (by decide)) ?_
      refine rx (xs_aload_n dm_Re_closed_61 rfl) ?_
      refine rx (xs_iload dm_Re_closed_62 rfl) ?_
      have hs2 := sg_tl hs
      rw [sg_app] at hs2
      refine rcV (as := [.inl (pp + 1)]) (rest := []) dm_Re_closed_64 lc_Re_skipType lm_Re_36 li_Re_skipType (nr rfl rfl) rfl rfl rfl (nl rfl) (re_skipType (p := k + 1) hs2.1 hs1 (by omega) (by omega)) ?_
      rintro _ q1 ⟨rfl, hq1⟩
      have hq1 := hq1.symm
      subst hq1
      show rX E _ 67 [some (.inr (some E.1.length)), some (.inl f), some (.inl g), some (.inl tf), some (.inl te), some (.inl pp), some (.inl 13), some (.inl (pp + 1)), o8] [.inl (((k + 1 : Nat) : Int) + (s.length : Int))] _ _
      refine rx (xs_goto (tgt := 74) dm_Re_closed_67 rfl) ?_
      refine rx (xs_istore dm_Re_closed_74 (by decide)) ?_
      show rX E _ 76 [some (.inr (some E.1.length)), some (.inl f), some (.inl g), some (.inl tf), some (.inl te), some (.inl (((k + 1 : Nat) : Int) + (s.length : Int))), some (.inl 13), some (.inl (pp + 1)), o8] [] _ _
      refine rx (xs_iload dm_Re_closed_76 rfl) ?_
      refine rx (xs_istore dm_Re_closed_78 (by decide)) ?_
      show rX E _ 80 [some (.inr (some E.1.length)), some (.inl f), some (.inl g), some (.inl tf), some (.inl te), some (.inl (((k + 1 : Nat) : Int) + (s.length : Int))), some (.inl 13), some (.inl (pp + 1)), some (.inl (pp + 1))] [] _ _
      refine re_closed_i E hT htf hte hT1 hTi s (k + 1) _ (by omega) hs2.1 (by omega) (by omega) (isTy_ir hs1) (fun h => hR0 (fun h2 => h h2.1)) (fun h kk' => ?_)
      refine rx (xs_goto (tgt := 3) dm_Re_closed_123 rfl) ?_
      exact ih (u ++ r) (n + 1) (k + 1 + s.length) _ _ _ _ (by simp; omega) (by omega) hs2.2 ⟨_, _, _, _, hu, rfl, hr⟩ (by simp; omega) (by simp; omega) (fun z hz => hi z (List.mem_cons_of_mem _ (List.mem_append_right _ hz))) (fun h2 => hR1 ⟨h, h2⟩) (fun h2 => hR0 (fun h3 => h2 h3.2))
set_option maxHeartbeats 4000000 in
set_option maxRecDepth 100000 in
theorem re_closed {q : rS} {f g tf te : Int} {pt pT : Nat} {t a T : List Int} {R : Int} (hs : sg q pt t) (hT : sg q pT T) (ht : isTm [] t a) (hTi : ∀ s ∈ T, ir s) (hf : f = pt) (hg : g = (pt : Int) + (t.length : Int)) (htf : tf = pT) (hte : te = (pT : Int) + (T.length : Int)) (hT1 : pT + T.length ≤ 10000) (h1 : pt + t.length ≤ 10000) (hR1 : clC T t → R = 1) (hR0 : ¬ clC T t → R = 0) : rM mm_Re_closed [.inl f, .inl g, .inl tf, .inl te] q (fun r q' => r = some (.inl R) ∧ q' = q) := by
  refine rm rfl (nl rfl) (fun E => ?_)
  show rX E _ 0 [some (.inr (some E.1.length)), some (.inl f), some (.inl g), some (.inl tf), some (.inl te), none, none, none, none] [] _ _
  refine rx (xs_iload_n dm_Re_closed_0 rfl) ?_
  refine rx (xs_istore dm_Re_closed_1 (by decide)) ?_
  show rX E _ 3 [some (.inr (some E.1.length)), some (.inl f), some (.inl g), some (.inl tf), some (.inl te), some (.inl f), none, none, none] [] _ _
  exact re_closed_l E hT htf hte hT1 hTi (t.length + 1) t 1 pt _ _ _ _ (by omega) hf hs ⟨_, _, _, [], ht, by simp, rfl⟩ hg h1 (isTm_ir ht (by simp; omega)) hR1 hR0
