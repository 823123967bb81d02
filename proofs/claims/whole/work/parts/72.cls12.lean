/-! hypotheses: reading -/
def hyA (h : xH) (a : Nat) (hs : List (List Int)) : Prop := 14 ≤ a ∧ ∃ (ra : Nat) (q : List (Option Nat)), 14 ≤ ra ∧ h.1[a]? = some (.inr (.inr (2, [.inr (some ra), .inl (hs.length : Int)]))) ∧ h.1[ra]? = some (.inr (.inl (0, q))) ∧ q.length = 6 ∧ hs.length ≤ 6 ∧ ∀ (i : Nat) (l : List Int), hs[i]? = some l → ∃ b, q[i]? = some (some b) ∧ rwA h b l
theorem hyA_gr {P : Nat → Prop} {C S : Nat} {h hf : xH} {a : Nat} {hs : List (List Int)} (hy : hyA h a hs) (hg : gr P C S h hf) (hP : ∀ i, 14 ≤ i → ¬ P i) : hyA hf a hs := by
  obtain ⟨h1, ra, q, h2, h3, h4, h5, h6, h7⟩ := hy
  refine ⟨h1, ra, q, h2, hg.2 a _ (hP a h1) h3, hg.2 ra _ (hP ra h2) h4, h5, h6, fun i l hl => ?_⟩
  obtain ⟨b, b1, b2⟩ := h7 i l hl
  exact ⟨b, b1, rwA_lo b2 hg (fun i hi => hP i (by omega))⟩
set_option maxHeartbeats 4000000 in
set_option maxRecDepth 100000 in
theorem hy_get {h : xH} {a : Nat} {hs : List (List Int)} {p : Int} (hy : hyA h a hs) (hp : ir p) : x_Mx mm_Hy_get [.inr (some a), .inl p] h (fun r hf => hf = h ∧ ((0 ≤ p ∧ p < (hs.length : Int) ∧ ∃ b l, hs[p.toNat]? = some l ∧ r = some (.inr (some b)) ∧ rwA h b l) ∨ (¬ (0 ≤ p ∧ p < (hs.length : Int)) ∧ r = some (.inr none)))) := by
  refine xmx rfl (nl rfl) ?_
  obtain ⟨y1, ra, q, y2, c1, c2, y5, y6, y7⟩ := hy
  show x_X _ 0 [some (.inr (some a)), some (.inl p)] [] _ _
  refine xx (xs_iload_n dm_Hy_get_0 rfl) ?_
  refine xx_if_lt (tgt := 21) dm_Hy_get_1 rfl hp (fun hc => ?_) (fun hc => ?_)
  · change x_X _ 21 _ _ _ _
    refine xx (xs_null dm_Hy_get_21) ?_
    exact ⟨_, _, xb_a dm_Hy_get_22 rfl (Or.inl ⟨_, rfl⟩), rfl, Or.inr ⟨by omega, rfl⟩⟩
  · change x_X _ 4 _ _ _ _
    refine xx (xs_iload_n dm_Hy_get_4 rfl) ?_
    refine xx (xs_aload_n dm_Hy_get_5 rfl) ?_
    refine xx (xs_getf dm_Hy_get_6 lf_Hy_17 c1 rfl) ?_
    refine xx_icmp_ge (tgt := 21) dm_Hy_get_9 rfl hp (by unfold ir; omega) (fun hc2 => ?_) (fun hc2 => ?_)
    · change x_X _ 21 _ _ _ _
      refine xx (xs_null dm_Hy_get_21) ?_
      exact ⟨_, _, xb_a dm_Hy_get_22 rfl (Or.inl ⟨_, rfl⟩), rfl, Or.inr ⟨by omega, rfl⟩⟩
    · change x_X _ 12 _ _ _ _
      obtain ⟨l, hl⟩ : ∃ l, hs[p.toNat]? = some l := ⟨_, List.getElem?_eq_getElem (by omega)⟩
      obtain ⟨b, b1, b2⟩ := y7 _ l hl
      refine xx (xs_aload_n dm_Hy_get_12 rfl) ?_
      refine xx (xs_getf dm_Hy_get_13 lf_Hy_11 c1 rfl) ?_
      refine xx (xs_iload_n dm_Hy_get_16 rfl) ?_
      refine xx (xs_aald (x := (some b)) dm_Hy_get_17 (by decide) c2 (by omega) b1 (by omega)) ?_
      refine xx (xs_goto (tgt := 22) dm_Hy_get_18 rfl) ?_
      exact ⟨_, _, xb_a dm_Hy_get_22 rfl (Or.inl ⟨_, rfl⟩), rfl, Or.inl ⟨by omega, by omega, b, l, hl, rfl, b2⟩⟩
set_option maxHeartbeats 4000000 in
set_option maxRecDepth 100000 in
theorem hy_haveFree_l {h : xH} {a : Nat} {hs : List (List Int)} {c : Nat} {v : List Int} {R : Int} (hy : hyA h a hs) (hr : rwA h c v) (hv9 : ∀ x ∈ v, x ≠ -1) (hv0 : v ≠ []) : ∀ (N k : Nat) (kk : Int), hs.length - k < N → k ≤ hs.length → kk = k → ((∃ l ∈ hs.drop k, frC v l) → R = 1) → (¬ (∃ l ∈ hs.drop k, frC v l) → R = 0) → x_X mm_Hy_haveFree 2 [some (.inr (some a)), some (.inr (some c)), some (.inl kk)] [] h (fun r hf => r = some (.inl R) ∧ hf = h) := by
  intro N
  induction N with
  | zero => intro k kk hN; omega
  | succ N ih =>
    intro k kk hN hk hkk hR1 hR0
    obtain ⟨y1, ra, q, y2, c1, c2, y5, y6, y7⟩ := hy
    by_cases hkn : k = hs.length
    · refine xx (xs_iload_n dm_Hy_haveFree_2 rfl) ?_
      refine xx (xs_aload_n dm_Hy_haveFree_3 rfl) ?_
      refine xx (xs_getf dm_Hy_haveFree_4 lf_Hy_17 c1 rfl) ?_
      refine xx (xs_icmp_ge_t (tgt := 31) dm_Hy_haveFree_7 rfl (by unfold ir; omega) (by unfold ir; omega) (by omega)) ?_
      refine xx (xs_iconst dm_Hy_haveFree_31) ?_
      exact ⟨_, _, xb_z dm_Hy_haveFree_32 rfl (by omega), by rw [hR0 (by rw [hkn, List.drop_length]; simp)], rfl⟩
    · obtain ⟨l, hl⟩ : ∃ l, hs[k]? = some l := ⟨_, List.getElem?_eq_getElem (by omega)⟩
      have hdl : hs.drop k = l :: hs.drop (k + 1) := by
        rw [List.drop_eq_getElem_cons (by omega)]
        congr 1
        exact (List.getElem?_eq_some_iff.mp hl).2
      obtain ⟨b, b1, b2⟩ := y7 k l hl
      have ka : kk.toNat = k := by omega
      have b3 := b2
      obtain ⟨ra9, ri9, s9, f9, A9, rs9, rc9, -⟩ := b2
      refine xx (xs_iload_n dm_Hy_haveFree_2 rfl) ?_
      refine xx (xs_aload_n dm_Hy_haveFree_3 rfl) ?_
      refine xx (xs_getf dm_Hy_haveFree_4 lf_Hy_17 c1 rfl) ?_
      refine xx (xs_icmp_ge_f (tgt := 31) dm_Hy_haveFree_7 rfl (by unfold ir; omega) (by unfold ir; omega) (by omega)) ?_
      refine xx (xs_aload_n dm_Hy_haveFree_10 rfl) ?_
      refine xx (xs_getf dm_Hy_haveFree_11 lf_Hy_11 c1 rfl) ?_
      refine xx (xs_iload_n dm_Hy_haveFree_14 rfl) ?_
      refine xx (xs_aald (x := (some b)) dm_Hy_haveFree_15 (by decide) c2 (by omega) (by rw [ka]; exact b1) (by omega)) ?_
      refine xx (xs_aload_n dm_Hy_haveFree_16 rfl) ?_
      by_cases hfr : frC v l
      · refine xcV (as := [.inr (some c)]) (rest := []) dm_Hy_haveFree_17 lc_Ro_hasFree lm_Hy_32 li_Ro_hasFree (nr rfl rfl) rfl rfl rc9 rfl (nl rfl) (ro_hasFree (R := 1) b3 hr hv9 hv0 (fun _ => rfl) (fun h => absurd hfr h)) ?_
        rintro _ hx9 ⟨rfl, hhx9⟩
        have hhx9 := hhx9.symm
        subst hhx9
        show x_X _ 20 [some (.inr (some a)), some (.inr (some c)), some (.inl kk)] [.inl 1] _ _
        refine xx (xs_if_eq_f (tgt := 25) dm_Hy_haveFree_20 rfl (by unfold ir; omega) (by decide)) ?_
        refine xx (xs_iconst dm_Hy_haveFree_23) ?_
        exact ⟨_, _, xb_z dm_Hy_haveFree_24 rfl (by omega), by rw [hR1 ⟨l, by rw [hdl]; exact List.mem_cons_self, hfr⟩], rfl⟩
      · refine xcV (as := [.inr (some c)]) (rest := []) dm_Hy_haveFree_17 lc_Ro_hasFree lm_Hy_32 li_Ro_hasFree (nr rfl rfl) rfl rfl rc9 rfl (nl rfl) (ro_hasFree (R := 0) b3 hr hv9 hv0 (fun h => absurd h hfr) (fun _ => rfl)) ?_
        rintro _ hx9 ⟨rfl, hhx9⟩
        have hhx9 := hhx9.symm
        subst hhx9
        show x_X _ 20 [some (.inr (some a)), some (.inr (some c)), some (.inl kk)] [.inl 0] _ _
        refine xx (xs_if_eq_t (tgt := 25) dm_Hy_haveFree_20 rfl (by unfold ir; omega) (by decide)) ?_
        refine xx (xs_iinc dm_Hy_haveFree_25 rfl (by decide)) ?_
        show x_X _ 28 [some (.inr (some a)), some (.inr (some c)), some (.inl (kk + 1))] [] _ _
        refine xx (xs_goto (tgt := 2) dm_Hy_haveFree_28 rfl) ?_
        exact ih (k + 1) _ (by omega) (by omega) (by omega) (fun ⟨y, hy1, hy2⟩ => hR1 ⟨y, by rw [hdl]; exact List.mem_cons_of_mem _ hy1, hy2⟩) (fun hno => hR0 (by
          rintro ⟨y, hy1, hy2⟩
          rw [hdl] at hy1
          rcases List.mem_cons.mp hy1 with e | e
          · rw [e] at hy2; exact hfr hy2
          · exact hno ⟨y, e, hy2⟩))
set_option maxHeartbeats 4000000 in
set_option maxRecDepth 100000 in
theorem hy_haveFree {h : xH} {a c : Nat} {hs : List (List Int)} {v : List Int} {R : Int} (hy : hyA h a hs) (hr : rwA h c v) (hv9 : ∀ x ∈ v, x ≠ -1) (hv0 : v ≠ []) (hR1 : (∃ l ∈ hs, frC v l) → R = 1) (hR0 : ¬ (∃ l ∈ hs, frC v l) → R = 0) : x_Mx mm_Hy_haveFree [.inr (some a), .inr (some c)] h (fun r hf => r = some (.inl R) ∧ hf = h) := by
  refine xmx rfl (nl rfl) ?_
  show x_X _ 0 [some (.inr (some a)), some (.inr (some c)), none] [] _ _
  refine xx (xs_iconst dm_Hy_haveFree_0) ?_
  refine xx (xs_istore_n dm_Hy_haveFree_1 (by decide)) ?_
  show x_X _ 2 [some (.inr (some a)), some (.inr (some c)), some (.inl 0)] [] _ _
  exact hy_haveFree_l hy hr hv9 hv0 (hs.length + 1) 0 0 (by omega) (by omega) rfl (by simpa using hR1) (by simpa using hR0)
set_option maxHeartbeats 4000000 in
set_option maxRecDepth 100000 in
theorem hy_small_l {h : xH} {a : Nat} {hs : List (List Int)}  {R : Int} (hy : hyA h a hs)  : ∀ (N k : Nat) (kk : Int), hs.length - k < N → k ≤ hs.length → kk = k → ((hs.length ≤ 3 ∧ ∀ l ∈ hs.drop k, l.length ≤ 40) → R = 1) → (¬ (hs.length ≤ 3 ∧ ∀ l ∈ hs.drop k, l.length ≤ 40) → R = 0) → x_X mm_Hy_areSmallEnough 2 [some (.inr (some a)), some (.inl kk)] [] h (fun r hf => r = some (.inl R) ∧ hf = h) := by
  intro N
  induction N with
  | zero => intro k kk hN; omega
  | succ N ih =>
    intro k kk hN hk hkk hR1 hR0
    obtain ⟨y1, ra, q, y2, c1, c2, y5, y6, y7⟩ := hy
    by_cases hkn : k = hs.length
    · refine xx (xs_iload_n dm_Hy_areSmallEnough_2 rfl) ?_
      refine xx (xs_aload_n dm_Hy_areSmallEnough_3 rfl) ?_
      refine xx (xs_getf dm_Hy_areSmallEnough_4 lf_Hy_17 c1 rfl) ?_
      refine xx (xs_icmp_ge_t (tgt := 32) dm_Hy_areSmallEnough_7 rfl (by unfold ir; omega) (by unfold ir; omega) (by omega)) ?_
      refine xx (xs_aload_n dm_Hy_areSmallEnough_32 rfl) ?_
      refine xx (xs_getf dm_Hy_areSmallEnough_33 lf_Hy_17 c1 rfl) ?_
      refine xx (xs_iconst dm_Hy_areSmallEnough_36) ?_
      refine xx_icmp_gt (tgt := 44) dm_Hy_areSmallEnough_37 rfl (by unfold ir; omega) (by unfold ir; omega) (fun hc => ?_) (fun hc => ?_)
      · change x_X _ 44 _ _ _ _
        refine xx (xs_iconst dm_Hy_areSmallEnough_44) ?_
        exact ⟨_, _, xb_z dm_Hy_areSmallEnough_45 rfl (by omega), by rw [hR0 (fun h => by have := h.1; omega)], rfl⟩
      · change x_X _ 40 _ _ _ _
        refine xx (xs_iconst dm_Hy_areSmallEnough_40) ?_
        refine xx (xs_goto (tgt := 45) dm_Hy_areSmallEnough_41 rfl) ?_
        exact ⟨_, _, xb_z dm_Hy_areSmallEnough_45 rfl (by omega), by rw [hR1 ⟨by omega, by rw [hkn, List.drop_length]; simp⟩], rfl⟩
    · obtain ⟨l, hl⟩ : ∃ l, hs[k]? = some l := ⟨_, List.getElem?_eq_getElem (by omega)⟩
      have hdl : hs.drop k = l :: hs.drop (k + 1) := by
        rw [List.drop_eq_getElem_cons (by omega)]
        congr 1
        exact (List.getElem?_eq_some_iff.mp hl).2
      obtain ⟨b, b1, b2⟩ := y7 k l hl
      have ka : kk.toNat = k := by omega
      have hl81 := rwA_len b2
      obtain ⟨ra9, ri9, s9, f9, A9, rs9, rc9, -⟩ := b2
      refine xx (xs_iload_n dm_Hy_areSmallEnough_2 rfl) ?_
      refine xx (xs_aload_n dm_Hy_areSmallEnough_3 rfl) ?_
      refine xx (xs_getf dm_Hy_areSmallEnough_4 lf_Hy_17 c1 rfl) ?_
      refine xx (xs_icmp_ge_f (tgt := 32) dm_Hy_areSmallEnough_7 rfl (by unfold ir; omega) (by unfold ir; omega) (by omega)) ?_
      refine xx (xs_aload_n dm_Hy_areSmallEnough_10 rfl) ?_
      refine xx (xs_getf dm_Hy_areSmallEnough_11 lf_Hy_11 c1 rfl) ?_
      refine xx (xs_iload_n dm_Hy_areSmallEnough_14 rfl) ?_
      refine xx (xs_aald (x := (some b)) dm_Hy_areSmallEnough_15 (by decide) c2 (by omega) (by rw [ka]; exact b1) (by omega)) ?_
      refine xx (xs_getf dm_Hy_areSmallEnough_16 lf_Hy_35 rc9 rfl) ?_
      refine xx (xs_bipush dm_Hy_areSmallEnough_19 (by decide)) ?_
      refine xx_icmp_le (tgt := 26) dm_Hy_areSmallEnough_21 rfl (by unfold ir; omega) (by unfold ir; omega) (fun hc => ?_) (fun hc => ?_)
      · change x_X _ 26 _ _ _ _
        refine xx (xs_iinc dm_Hy_areSmallEnough_26 rfl (by decide)) ?_
        show x_X _ 29 [some (.inr (some a)), some (.inl (kk + 1))] [] _ _
        refine xx (xs_goto (tgt := 2) dm_Hy_areSmallEnough_29 rfl) ?_
        exact ih (k + 1) _ (by omega) (by omega) (by omega) (fun ⟨g1, g2⟩ => hR1 ⟨g1, fun y hy1 => by
          rw [hdl] at hy1
          rcases List.mem_cons.mp hy1 with e | e
          · rw [e]; omega
          · exact g2 y e⟩) (fun hno => hR0 (fun ⟨g1, g2⟩ => hno ⟨g1, fun y hy1 => g2 y (by rw [hdl]; exact List.mem_cons_of_mem _ hy1)⟩))
      · change x_X _ 24 _ _ _ _
        refine xx (xs_iconst dm_Hy_areSmallEnough_24) ?_
        exact ⟨_, _, xb_z dm_Hy_areSmallEnough_25 rfl (by omega), by rw [hR0 (fun ⟨g1, g2⟩ => by have := g2 l (by rw [hdl]; exact List.mem_cons_self); omega)], rfl⟩
set_option maxHeartbeats 4000000 in
set_option maxRecDepth 100000 in
theorem hy_small {h : xH} {a : Nat} {hs : List (List Int)} {R : Int} (hy : hyA h a hs) (hR1 : (hs.length ≤ 3 ∧ ∀ l ∈ hs, l.length ≤ 40) → R = 1) (hR0 : ¬ (hs.length ≤ 3 ∧ ∀ l ∈ hs, l.length ≤ 40) → R = 0) : x_Mx mm_Hy_areSmallEnough [.inr (some a)] h (fun r hf => r = some (.inl R) ∧ hf = h) := by
  refine xmx rfl (nl rfl) ?_
  show x_X _ 0 [some (.inr (some a)), none] [] _ _
  refine xx (xs_iconst dm_Hy_areSmallEnough_0) ?_
  refine xx (xs_istore_n dm_Hy_areSmallEnough_1 (by decide)) ?_
  show x_X _ 2 [some (.inr (some a)), some (.inl 0)] [] _ _
  exact hy_small_l hy (hs.length + 1) 0 0 (by omega) (by omega) rfl (by simpa using hR1) (by simpa using hR0)
