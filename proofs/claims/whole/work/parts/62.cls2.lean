/-! more of a row -/
def nn1 (l : List Int) : Prop := ∀ x ∈ l, 0 ≤ x
theorem nn_ne {l : List Int} (h : nn1 l) : ∀ x ∈ l, x ≠ -1 := fun x hx e => by have := h x hx; omega
theorem drop_at {l : List Int} {k : Nat} {x : Int} (h : l[k]? = some x) : l.drop k = x :: l.drop (k + 1) := by
  rw [List.drop_eq_getElem_cons (List.getElem?_eq_some_iff.mp h).1]
  congr 1
  exact (List.getElem?_eq_some_iff.mp h).2
set_option maxHeartbeats 4000000 in
set_option maxRecDepth 100000 in
theorem ro_comesBefore_l {h : xH} {a : Nat} {l : List Int} {b : Nat} {v : List Int} (hr1 : rwA h a l) (hr2 : rwA h b v) (hn : nn1 l) : ∀ (N k : Nat) (kk : Int), l.length - k < N → k ≤ l.length → kk = k → x_X mm_Ro_comesBefore 2 [some (.inr (some a)), some (.inr (some b)), some (.inl kk)] [] h (fun r hf => r = some (.inl (if cm (l.drop k) (v.drop k) = -1 then 1 else 0)) ∧ hf = h) := by
  intro N
  induction N with
  | zero => intro k kk hN; omega
  | succ N ih =>
    intro k kk hN hk hkk
    have hr1' := hr1
    have l1 := rwA_len hr1
    obtain ⟨ra1, ri1, s1, f1, A1, rs1, rc1, rd1, rl1, rf1, rg1⟩ := hr1
    have hr2' := hr2
    have l2 := rwA_len hr2
    obtain ⟨ra2, ri2, s2, f2, A2, rs2, rc2, rd2, rl2, rf2, rg2⟩ := hr2
    by_cases hkn : k = l.length
    · refine xx (xs_iload_n dm_Ro_comesBefore_2 rfl) ?_
      refine xx (xs_aload_n dm_Ro_comesBefore_3 rfl) ?_
      refine xx (xs_getf dm_Ro_comesBefore_4 lf_Ro_19 rc1 rfl) ?_
      refine xx (xs_icmp_ge_t (tgt := 48) dm_Ro_comesBefore_7 rfl (by unfold ir; omega) (by unfold ir; omega) (by omega)) ?_
      refine xx (xs_iconst dm_Ro_comesBefore_48) ?_
      exact ⟨_, _, xb_z dm_Ro_comesBefore_49 rfl (by omega), ⟨by rw [hkn, List.drop_length]; rfl, rfl⟩⟩
    · obtain ⟨x, hx⟩ : ∃ x, l[k]? = some x := ⟨_, List.getElem?_eq_getElem (by omega)⟩
      have hdl := drop_at hx
      have e1 : atL l kk = x := by rw [hkk]; exact atL_n hx
      have ix : ir (atL l kk) := atL_ir ri1 _
      have iv : ir (atL v kk) := atL_ir ri2 _
      have hx0 := hn x (List.mem_of_getElem? hx)
      refine xx (xs_iload_n dm_Ro_comesBefore_2 rfl) ?_
      refine xx (xs_aload_n dm_Ro_comesBefore_3 rfl) ?_
      refine xx (xs_getf dm_Ro_comesBefore_4 lf_Ro_19 rc1 rfl) ?_
      refine xx (xs_icmp_ge_f (tgt := 48) dm_Ro_comesBefore_7 rfl (by unfold ir; omega) (by unfold ir; omega) (by omega)) ?_
      refine xx (xs_aload_n dm_Ro_comesBefore_10 rfl) ?_
      refine xx (xs_iload_n dm_Ro_comesBefore_11 rfl) ?_
      refine xcV (as := [.inl kk]) (rest := []) dm_Ro_comesBefore_12 lc_Ro_at lm_Ro_25 li_Ro_at (nr rfl rfl) rfl rfl rc1 rfl (nl rfl) (ro_at hr1' (by unfold ir; omega)) ?_
      rintro _ h1 ⟨rfl, hh1⟩
      have hh1 := hh1.symm
      subst hh1
      show x_X _ 15 [some (.inr (some a)), some (.inr (some b)), some (.inl kk)] [.inl (atL l kk)] _ _
      refine xx (xs_aload_n dm_Ro_comesBefore_15 rfl) ?_
      refine xx (xs_iload_n dm_Ro_comesBefore_16 rfl) ?_
      refine xcV (as := [.inl kk]) (rest := [.inl (atL l kk)]) dm_Ro_comesBefore_17 lc_Ro_at lm_Ro_25 li_Ro_at (nr rfl rfl) rfl rfl rc2 rfl (nl rfl) (ro_at hr2' (by unfold ir; omega)) ?_
      rintro _ h1 ⟨rfl, hh1⟩
      have hh1 := hh1.symm
      subst hh1
      show x_X _ 20 [some (.inr (some a)), some (.inr (some b)), some (.inl kk)] [.inl (atL v kk), .inl (atL l kk)] _ _
      by_cases hkv : k < v.length
      · obtain ⟨y, hy⟩ : ∃ y, v[k]? = some y := ⟨_, List.getElem?_eq_getElem hkv⟩
        have hdv := drop_at hy
        have e2 : atL v kk = y := by rw [hkk]; exact atL_n hy
        refine xx_icmp_eq (tgt := 42) dm_Ro_comesBefore_20 rfl ix iv (fun hc => ?_) (fun hc => ?_)
        · change x_X _ 42 _ _ _ _
          rw [e1, e2] at hc
          refine xx (xs_iinc dm_Ro_comesBefore_42 rfl (by decide)) ?_
          show x_X _ 45 [some (.inr (some a)), some (.inr (some b)), some (.inl (kk + 1))] [] _ _
          refine xx (xs_goto (tgt := 2) dm_Ro_comesBefore_45 rfl) ?_
          refine xxq (ih (k + 1) _ (by omega) (by omega) (by omega)) ?_
          rintro _ _ ⟨rfl, rfl⟩
          refine ⟨?_, rfl⟩
          rw [hdl, hdv, cm, if_pos hc]
        · change x_X _ 23 _ _ _ _
          refine xx (xs_aload_n dm_Ro_comesBefore_23 rfl) ?_
          refine xx (xs_iload_n dm_Ro_comesBefore_24 rfl) ?_
          refine xcV (as := [.inl kk]) (rest := []) dm_Ro_comesBefore_25 lc_Ro_at lm_Ro_25 li_Ro_at (nr rfl rfl) rfl rfl rc1 rfl (nl rfl) (ro_at hr1' (by unfold ir; omega)) ?_
          rintro _ h1 ⟨rfl, hh1⟩
          have hh1 := hh1.symm
          subst hh1
          show x_X _ 28 [some (.inr (some a)), some (.inr (some b)), some (.inl kk)] [.inl (atL l kk)] _ _
          refine xx (xs_aload_n dm_Ro_comesBefore_28 rfl) ?_
          refine xx (xs_iload_n dm_Ro_comesBefore_29 rfl) ?_
          refine xcV (as := [.inl kk]) (rest := [.inl (atL l kk)]) dm_Ro_comesBefore_30 lc_Ro_at lm_Ro_25 li_Ro_at (nr rfl rfl) rfl rfl rc2 rfl (nl rfl) (ro_at hr2' (by unfold ir; omega)) ?_
          rintro _ h1 ⟨rfl, hh1⟩
          have hh1 := hh1.symm
          subst hh1
          show x_X _ 33 [some (.inr (some a)), some (.inr (some b)), some (.inl kk)] [.inl (atL v kk), .inl (atL l kk)] _ _
          refine xx_icmp_ge (tgt := 40) dm_Ro_comesBefore_33 rfl ix iv (fun hc2 => ?_) (fun hc2 => ?_)
          · change x_X _ 40 _ _ _ _
            refine xx (xs_iconst dm_Ro_comesBefore_40) ?_
            rw [e1, e2] at hc hc2
            exact ⟨_, _, xb_z dm_Ro_comesBefore_41 rfl (by omega), ⟨by rw [hdl, hdv, cm, if_neg hc, if_neg (by omega)] <;> rfl, rfl⟩⟩
          · change x_X _ 36 _ _ _ _
            refine xx (xs_iconst dm_Ro_comesBefore_36) ?_
            refine xx (xs_goto (tgt := 41) dm_Ro_comesBefore_37 rfl) ?_
            rw [e1, e2] at hc hc2
            exact ⟨_, _, xb_z dm_Ro_comesBefore_41 rfl (by omega), ⟨by rw [hdl, hdv, cm, if_neg hc, if_pos (by omega)] <;> rfl, rfl⟩⟩
      · have e2 : atL v kk = -1 := atL_o (by omega)
        refine xx (xs_icmp_eq_f (tgt := 42) dm_Ro_comesBefore_20 rfl ix iv (by rw [e1, e2]; omega)) ?_
        refine xx (xs_aload_n dm_Ro_comesBefore_23 rfl) ?_
        refine xx (xs_iload_n dm_Ro_comesBefore_24 rfl) ?_
        refine xcV (as := [.inl kk]) (rest := []) dm_Ro_comesBefore_25 lc_Ro_at lm_Ro_25 li_Ro_at (nr rfl rfl) rfl rfl rc1 rfl (nl rfl) (ro_at hr1' (by unfold ir; omega)) ?_
        rintro _ h1 ⟨rfl, hh1⟩
        have hh1 := hh1.symm
        subst hh1
        show x_X _ 28 [some (.inr (some a)), some (.inr (some b)), some (.inl kk)] [.inl (atL l kk)] _ _
        refine xx (xs_aload_n dm_Ro_comesBefore_28 rfl) ?_
        refine xx (xs_iload_n dm_Ro_comesBefore_29 rfl) ?_
        refine xcV (as := [.inl kk]) (rest := [.inl (atL l kk)]) dm_Ro_comesBefore_30 lc_Ro_at lm_Ro_25 li_Ro_at (nr rfl rfl) rfl rfl rc2 rfl (nl rfl) (ro_at hr2' (by unfold ir; omega)) ?_
        rintro _ h1 ⟨rfl, hh1⟩
        have hh1 := hh1.symm
        subst hh1
        show x_X _ 33 [some (.inr (some a)), some (.inr (some b)), some (.inl kk)] [.inl (atL v kk), .inl (atL l kk)] _ _
        refine xx (xs_icmp_ge_t (tgt := 40) dm_Ro_comesBefore_33 rfl ix iv (by rw [e1, e2]; omega)) ?_
        refine xx (xs_iconst dm_Ro_comesBefore_40) ?_
        exact ⟨_, _, xb_z dm_Ro_comesBefore_41 rfl (by omega), ⟨by rw [hdl, show v.drop k = [] from List.drop_eq_nil_of_le (by omega)]; rfl, rfl⟩⟩
set_option maxHeartbeats 4000000 in
set_option maxRecDepth 100000 in
theorem ro_comesBefore {h : xH} {a b : Nat} {l v : List Int} (hr1 : rwA h a l) (hr2 : rwA h b v) (hn : nn1 l) : x_Mx mm_Ro_comesBefore [.inr (some a), .inr (some b)] h (fun r hf => r = some (.inl (if cm l v = -1 then 1 else 0)) ∧ hf = h) := by
  refine xmx rfl (nl rfl) ?_
  show x_X _ 0 [some (.inr (some a)), some (.inr (some b)), none] [] _ _
  refine xx (xs_iconst dm_Ro_comesBefore_0) ?_
  refine xx (xs_istore_n dm_Ro_comesBefore_1 (by decide)) ?_
  show x_X _ 2 [some (.inr (some a)), some (.inr (some b)), some (.inl 0)] [] _ _
  have := ro_comesBefore_l hr1 hr2 hn (l.length + 1) 0 0 (by omega) (by omega) rfl
  simpa using this
set_option maxHeartbeats 4000000 in
set_option maxRecDepth 100000 in
theorem ro_has_l {h : xH} {a : Nat} {l : List Int} {x0 : Int} (hr1 : rwA h a l) (hx0 : ir x0) : ∀ (N k : Nat) (kk : Int), l.length - k < N → k ≤ l.length → kk = k → x_X mm_Ro_has 2 [some (.inr (some a)), some (.inl x0), some (.inl kk)] [] h (fun r hf => r = some (.inl (if x0 ∈ l.drop k then 1 else 0)) ∧ hf = h) := by
  intro N
  induction N with
  | zero => intro k kk hN; omega
  | succ N ih =>
    intro k kk hN hk hkk
    have hr1' := hr1
    have l1 := rwA_len hr1
    obtain ⟨ra1, ri1, s1, f1, A1, rs1, rc1, rd1, rl1, rf1, rg1⟩ := hr1
    by_cases hkn : k = l.length
    · refine xx (xs_iload_n dm_Ro_has_2 rfl) ?_
      refine xx (xs_aload_n dm_Ro_has_3 rfl) ?_
      refine xx (xs_getf dm_Ro_has_4 lf_Ro_19 rc1 rfl) ?_
      refine xx (xs_icmp_ge_t (tgt := 27) dm_Ro_has_7 rfl (by unfold ir; omega) (by unfold ir; omega) (by omega)) ?_
      refine xx (xs_iconst dm_Ro_has_27) ?_
      exact ⟨_, _, xb_z dm_Ro_has_28 rfl (by omega), ⟨by rw [hkn, List.drop_length]; simp, rfl⟩⟩
    · obtain ⟨x, hx⟩ : ∃ x, l[k]? = some x := ⟨_, List.getElem?_eq_getElem (by omega)⟩
      have hdl := drop_at hx
      have e1 : atL l kk = x := by rw [hkk]; exact atL_n hx
      have ix : ir (atL l kk) := atL_ir ri1 _
      refine xx (xs_iload_n dm_Ro_has_2 rfl) ?_
      refine xx (xs_aload_n dm_Ro_has_3 rfl) ?_
      refine xx (xs_getf dm_Ro_has_4 lf_Ro_19 rc1 rfl) ?_
      refine xx (xs_icmp_ge_f (tgt := 27) dm_Ro_has_7 rfl (by unfold ir; omega) (by unfold ir; omega) (by omega)) ?_
      refine xx (xs_aload_n dm_Ro_has_10 rfl) ?_
      refine xx (xs_iload_n dm_Ro_has_11 rfl) ?_
      refine xcV (as := [.inl kk]) (rest := []) dm_Ro_has_12 lc_Ro_at lm_Ro_25 li_Ro_at (nr rfl rfl) rfl rfl rc1 rfl (nl rfl) (ro_at hr1' (by unfold ir; omega)) ?_
      rintro _ h1 ⟨rfl, hh1⟩
      have hh1 := hh1.symm
      subst hh1
      show x_X _ 15 [some (.inr (some a)), some (.inl x0), some (.inl kk)] [.inl (atL l kk)] _ _
      refine xx (xs_iload_n dm_Ro_has_15 rfl) ?_
      refine xx_icmp_ne (tgt := 21) dm_Ro_has_16 rfl ix hx0 (fun hc => ?_) (fun hc => ?_)
      · change x_X _ 21 _ _ _ _
        rw [e1] at hc
        refine xx (xs_iinc dm_Ro_has_21 rfl (by decide)) ?_
        show x_X _ 24 [some (.inr (some a)), some (.inl x0), some (.inl (kk + 1))] [] _ _
        refine xx (xs_goto (tgt := 2) dm_Ro_has_24 rfl) ?_
        refine xxq (ih (k + 1) _ (by omega) (by omega) (by omega)) ?_
        rintro _ _ ⟨rfl, rfl⟩
        refine ⟨?_, rfl⟩
        have hm : x0 ∈ l.drop k ↔ x0 ∈ l.drop (k + 1) := by rw [hdl, List.mem_cons]; exact ⟨fun h => h.resolve_left (fun e => hc e.symm), Or.inr⟩
        by_cases hh : x0 ∈ l.drop (k + 1)
        · rw [if_pos hh, if_pos (hm.mpr hh)]
        · rw [if_neg hh, if_neg (fun e => hh (hm.mp e))]
      · change x_X _ 19 _ _ _ _
        rw [e1] at hc
        refine xx (xs_iconst dm_Ro_has_19) ?_
        exact ⟨_, _, xb_z dm_Ro_has_20 rfl (by omega), ⟨by rw [if_pos (by rw [hdl, hc]; exact List.mem_cons_self)], rfl⟩⟩
set_option maxHeartbeats 4000000 in
set_option maxRecDepth 100000 in
theorem ro_has {h : xH} {a : Nat} {l : List Int} {x0 : Int} (hr1 : rwA h a l) (hx0 : ir x0) : x_Mx mm_Ro_has [.inr (some a), .inl x0] h (fun r hf => r = some (.inl (if x0 ∈ l then 1 else 0)) ∧ hf = h) := by
  refine xmx rfl (nl rfl) ?_
  show x_X _ 0 [some (.inr (some a)), some (.inl x0), none] [] _ _
  refine xx (xs_iconst dm_Ro_has_0) ?_
  refine xx (xs_istore_n dm_Ro_has_1 (by decide)) ?_
  show x_X _ 2 [some (.inr (some a)), some (.inl x0), some (.inl 0)] [] _ _
  have := ro_has_l hr1 hx0 (l.length + 1) 0 0 (by omega) (by omega) rfl
  simpa using this
set_option maxHeartbeats 4000000 in
set_option maxRecDepth 100000 in
theorem ro_hasFreeVariable {h : xH} {a : Nat} {l : List Int} (hr1 : rwA h a l) : x_Mx mm_Ro_hasFreeVariable [.inr (some a)] h (fun r hf => r = some (.inl (if (10 : Int) ∈ l then 1 else 0)) ∧ hf = h) := by
  refine xmx rfl (nl rfl) ?_
  have hr1' := hr1
  obtain ⟨ra1, ri1, s1, f1, A1, rs1, rc1, rd1, rl1, rf1, rg1⟩ := hr1
  show x_X _ 0 [some (.inr (some a))] [] _ _
  refine xx (xs_aload_n dm_Ro_hasFreeVariable_0 rfl) ?_
  refine xx (xs_bipush dm_Ro_hasFreeVariable_1 (by decide)) ?_
  refine xcV (as := [.inl 10]) (rest := []) dm_Ro_hasFreeVariable_3 lc_Ro_has lm_Ro_43 li_Ro_has (nr rfl rfl) rfl rfl rc1 rfl (nl rfl) (ro_has hr1' (by unfold ir; omega)) ?_
  rintro _ h1 ⟨rfl, hh1⟩
  have hh1 := hh1.symm
  subst hh1
  show x_X _ 6 [some (.inr (some a))] [.inl (if (10 : Int) ∈ l then 1 else 0)] _ _
  exact ⟨_, _, xb_z dm_Ro_hasFreeVariable_6 rfl (by split <;> simp), ⟨rfl, rfl⟩⟩
set_option maxHeartbeats 4000000 in
set_option maxRecDepth 100000 in
theorem ro_hasFree_l {h : xH} {a : Nat} {l : List Int} {b : Nat} {v : List Int} {R : Int} (hr1 : rwA h a l) (hr2 : rwA h b v) (hv9 : ∀ x ∈ v, x ≠ -1) (hv0 : v ≠ []) : ∀ (N k : Nat) (kk : Int), l.length - k < N → k ≤ l.length → kk = k → (frC v (l.drop k) → R = 1) → (¬ frC v (l.drop k) → R = 0) → x_X mm_Ro_hasFree 2 [some (.inr (some a)), some (.inr (some b)), some (.inl kk)] [] h (fun r hf => r = some (.inl (R)) ∧ hf = h) := by
  intro N
  induction N with
  | zero => intro k kk hN; omega
  | succ N ih =>
    intro k kk hN hk hkk hR1 hR0
    have hr1' := hr1
    have l1 := rwA_len hr1
    obtain ⟨ra1, ri1, s1, f1, A1, rs1, rc1, rd1, rl1, rf1, rg1⟩ := hr1
    have hr2' := hr2
    have l2 := rwA_len hr2
    obtain ⟨ra2, ri2, s2, f2, A2, rs2, rc2, rd2, rl2, rf2, rg2⟩ := hr2
    by_cases hkn : k = l.length
    · refine xx (xs_iload_n dm_Ro_hasFree_2 rfl) ?_
      refine xx (xs_aload_n dm_Ro_hasFree_3 rfl) ?_
      refine xx (xs_getf dm_Ro_hasFree_4 lf_Ro_19 rc1 rfl) ?_
      refine xx (xs_icmp_ge_t (tgt := 27) dm_Ro_hasFree_7 rfl (by unfold ir; omega) (by unfold ir; omega) (by omega)) ?_
      refine xx (xs_iconst dm_Ro_hasFree_27) ?_
      exact ⟨_, _, xb_z dm_Ro_hasFree_28 rfl (by omega), ⟨by rw [hR0 (by rw [hkn, List.drop_length]; exact fun h => h)], rfl⟩⟩
    · obtain ⟨x, hx⟩ : ∃ x, l[k]? = some x := ⟨_, List.getElem?_eq_getElem (by omega)⟩
      have hdl := drop_at hx
      have e1 : atL l kk = x := by rw [hkk]; exact atL_n hx
      have ix : ir (atL l kk) := atL_ir ri1 _
      refine xx (xs_iload_n dm_Ro_hasFree_2 rfl) ?_
      refine xx (xs_aload_n dm_Ro_hasFree_3 rfl) ?_
      refine xx (xs_getf dm_Ro_hasFree_4 lf_Ro_19 rc1 rfl) ?_
      refine xx (xs_icmp_ge_f (tgt := 27) dm_Ro_hasFree_7 rfl (by unfold ir; omega) (by unfold ir; omega) (by omega)) ?_
      refine xx (xs_aload_n dm_Ro_hasFree_10 rfl) ?_
      refine xx (xs_iload_n dm_Ro_hasFree_11 rfl) ?_
      refine xx (xs_aload_n dm_Ro_hasFree_12 rfl) ?_
      refine xcV (as := [.inl kk, .inr (some b)]) (rest := []) dm_Ro_hasFree_13 lc_Ro_holdsAt lm_Ro_39 li_Ro_holdsAt (nr rfl rfl) rfl rfl rc1 rfl (nl rfl) (ro_holdsAt hr1' hr2' hv9 (by omega) (by omega)) ?_
      rintro _ h1 ⟨rfl, hh1⟩
      have hh1 := hh1.symm
      subst hh1
      show x_X _ 16 [some (.inr (some a)), some (.inr (some b)), some (.inl kk)] [.inl (if v.isPrefixOf (l.drop kk.toNat) = true then 1 else 0)] _ _
      rw [show kk.toNat = k by omega]
      by_cases hp : v.isPrefixOf (l.drop k) = true
      · rw [if_pos hp]
        refine xx (xs_if_eq_f (tgt := 21) dm_Ro_hasFree_16 rfl (by unfold ir; omega) (by decide)) ?_
        refine xx (xs_iconst dm_Ro_hasFree_19) ?_
        exact ⟨_, _, xb_z dm_Ro_hasFree_20 rfl (by omega), ⟨by rw [hR1 (by rw [hdl]; rw [hdl] at hp; exact Or.inl hp)], rfl⟩⟩
      · rw [if_neg hp]
        refine xx (xs_if_eq_t (tgt := 21) dm_Ro_hasFree_16 rfl (by unfold ir; omega) (by decide)) ?_
        refine xx (xs_iinc dm_Ro_hasFree_21 rfl (by decide)) ?_
        show x_X _ 24 [some (.inr (some a)), some (.inr (some b)), some (.inl (kk + 1))] [] _ _
        refine xx (xs_goto (tgt := 2) dm_Ro_hasFree_24 rfl) ?_
        exact ih (k + 1) _ (by omega) (by omega) (by omega) (fun hf => hR1 (by rw [hdl]; exact Or.inr hf)) (fun hf => hR0 (by
          rw [hdl]
          rintro (h9 | h9)
          · rw [hdl] at hp; exact hp h9
          · exact hf h9))
set_option maxHeartbeats 4000000 in
set_option maxRecDepth 100000 in
theorem ro_hasFree {h : xH} {a b : Nat} {l v : List Int} {R : Int} (hr1 : rwA h a l) (hr2 : rwA h b v) (hv9 : ∀ x ∈ v, x ≠ -1) (hv0 : v ≠ []) (hR1 : frC v l → R = 1) (hR0 : ¬ frC v l → R = 0) : x_Mx mm_Ro_hasFree [.inr (some a), .inr (some b)] h (fun r hf => r = some (.inl R) ∧ hf = h) := by
  refine xmx rfl (nl rfl) ?_
  show x_X _ 0 [some (.inr (some a)), some (.inr (some b)), none] [] _ _
  refine xx (xs_iconst dm_Ro_hasFree_0) ?_
  refine xx (xs_istore_n dm_Ro_hasFree_1 (by decide)) ?_
  show x_X _ 2 [some (.inr (some a)), some (.inr (some b)), some (.inl 0)] [] _ _
  exact ro_hasFree_l hr1 hr2 hv9 hv0 (l.length + 1) 0 0 (by omega) (by omega) rfl (by simpa using hR1) (by simpa using hR0)
/-- does the symbol at a place belong to a type -/
def ioT (l : List Int) (k : Int) : Prop := atL l k < 10 ∧ atL l (k - 1) ≠ 10 ∧ atL l (k - 1) ≠ 11
set_option maxHeartbeats 4000000 in
set_option maxRecDepth 100000 in
theorem ro_isOfType {h : xH} {a : Nat} {l : List Int} {k R : Int} (hr1 : rwA h a l) (hk : 0 ≤ k ∧ k ≤ 1000) (hR1 : ioT l k → R = 1) (hR0 : ¬ ioT l k → R = 0) : x_Mx mm_Ro_isOfType [.inr (some a), .inl k] h (fun r hf => r = some (.inl R) ∧ hf = h) := by
  refine xmx rfl (nl rfl) ?_
  have hr1' := hr1
  obtain ⟨ra1, ri1, s1, f1, A1, rs1, rc1, rd1, rl1, rf1, rg1⟩ := hr1
  have i1 := atL_ir ri1 k
  have i2 := atL_ir ri1 (k - 1)
  show x_X _ 0 [some (.inr (some a)), some (.inl k), none] [] _ _
  refine xx (xs_aload_n dm_Ro_isOfType_0 rfl) ?_
  refine xx (xs_iload_n dm_Ro_isOfType_1 rfl) ?_
  refine xx (xs_iconst dm_Ro_isOfType_2) ?_
  refine xx (xs_isub dm_Ro_isOfType_3) ?_
  refine xcV (as := [.inl (k - 1)]) (rest := []) dm_Ro_isOfType_4 lc_Ro_at lm_Ro_25 li_Ro_at (nr rfl rfl) rfl rfl rc1 rfl (nl rfl) (ro_at hr1' (by unfold ir; omega)) ?_
  rintro _ h1 ⟨rfl, hh1⟩
  have hh1 := hh1.symm
  subst hh1
  show x_X _ 7 [some (.inr (some a)), some (.inl k), none] [.inl (atL l (k - 1))] _ _
  refine xx (xs_istore_n dm_Ro_isOfType_7 (by decide)) ?_
  show x_X _ 8 [some (.inr (some a)), some (.inl k), some (.inl (atL l (k - 1)))] [] _ _
  refine xx (xs_aload_n dm_Ro_isOfType_8 rfl) ?_
  refine xx (xs_iload_n dm_Ro_isOfType_9 rfl) ?_
  refine xcV (as := [.inl k]) (rest := []) dm_Ro_isOfType_10 lc_Ro_at lm_Ro_25 li_Ro_at (nr rfl rfl) rfl rfl rc1 rfl (nl rfl) (ro_at hr1' (by unfold ir; omega)) ?_
  rintro _ h1 ⟨rfl, hh1⟩
  have hh1 := hh1.symm
  subst hh1
  show x_X _ 13 [some (.inr (some a)), some (.inl k), some (.inl (atL l (k - 1)))] [.inl (atL l k)] _ _
  refine xx (xs_bipush dm_Ro_isOfType_13 (by decide)) ?_
  refine xx_icmp_ge (tgt := 34) dm_Ro_isOfType_15 rfl i1 (by unfold ir; omega) (fun hc => ?_) (fun hc => ?_)
  · change x_X _ 34 _ _ _ _
    refine xx (xs_iconst dm_Ro_isOfType_34) ?_
    exact ⟨_, _, xb_z dm_Ro_isOfType_35 rfl (by omega), ⟨by rw [hR0 (fun h => by have := h.1; omega)], rfl⟩⟩
  · change x_X _ 18 _ _ _ _
    refine xx (xs_iload_n dm_Ro_isOfType_18 rfl) ?_
    refine xx (xs_bipush dm_Ro_isOfType_19 (by decide)) ?_
    refine xx_icmp_eq (tgt := 34) dm_Ro_isOfType_21 rfl i2 (by unfold ir; omega) (fun hc2 => ?_) (fun hc2 => ?_)
    · change x_X _ 34 _ _ _ _
      refine xx (xs_iconst dm_Ro_isOfType_34) ?_
      exact ⟨_, _, xb_z dm_Ro_isOfType_35 rfl (by omega), ⟨by rw [hR0 (fun h => h.2.1 hc2)], rfl⟩⟩
    · change x_X _ 24 _ _ _ _
      refine xx (xs_iload_n dm_Ro_isOfType_24 rfl) ?_
      refine xx (xs_bipush dm_Ro_isOfType_25 (by decide)) ?_
      refine xx_icmp_eq (tgt := 34) dm_Ro_isOfType_27 rfl i2 (by unfold ir; omega) (fun hc3 => ?_) (fun hc3 => ?_)
      · change x_X _ 34 _ _ _ _
        refine xx (xs_iconst dm_Ro_isOfType_34) ?_
        exact ⟨_, _, xb_z dm_Ro_isOfType_35 rfl (by omega), ⟨by rw [hR0 (fun h => h.2.2 hc3)], rfl⟩⟩
      · change x_X _ 30 _ _ _ _
        refine xx (xs_iconst dm_Ro_isOfType_30) ?_
        refine xx (xs_goto (tgt := 35) dm_Ro_isOfType_31 rfl) ?_
        exact ⟨_, _, xb_z dm_Ro_isOfType_35 rfl (by omega), ⟨by rw [hR1 ⟨by omega, hc2, hc3⟩], rfl⟩⟩
set_option maxHeartbeats 4000000 in
set_option maxRecDepth 100000 in
theorem ro_tvsi_l {h : xH} {a : Nat} {l : List Int} {b : Nat} {v : List Int} {R : Int} (hr1 : rwA h a l) (hr2 : rwA h b v) : ∀ (N k : Nat) (kk : Int), l.length - k < N → k ≤ l.length → kk = k → (tvC v (l.drop k) (atL l ((k : Int) - 1)) → R = 1) → (¬ tvC v (l.drop k) (atL l ((k : Int) - 1)) → R = 0) → x_X mm_Ro_typeVariablesStandIn 2 [some (.inr (some a)), some (.inr (some b)), some (.inl kk)] [] h (fun r hf => r = some (.inl (R)) ∧ hf = h) := by
  intro N
  induction N with
  | zero => intro k kk hN; omega
  | succ N ih =>
    intro k kk hN hk hkk hR1 hR0
    have hr1' := hr1
    have l1 := rwA_len hr1
    obtain ⟨ra1, ri1, s1, f1, A1, rs1, rc1, rd1, rl1, rf1, rg1⟩ := hr1
    have hr2' := hr2
    have l2 := rwA_len hr2
    obtain ⟨ra2, ri2, s2, f2, A2, rs2, rc2, rd2, rl2, rf2, rg2⟩ := hr2
    by_cases hkn : k = l.length
    · refine xx (xs_iload_n dm_Ro_typeVariablesStandIn_2 rfl) ?_
      refine xx (xs_aload_n dm_Ro_typeVariablesStandIn_3 rfl) ?_
      refine xx (xs_getf dm_Ro_typeVariablesStandIn_4 lf_Ro_19 rc1 rfl) ?_
      refine xx (xs_icmp_ge_t (tgt := 47) dm_Ro_typeVariablesStandIn_7 rfl (by unfold ir; omega) (by unfold ir; omega) (by omega)) ?_
      refine xx (xs_iconst dm_Ro_typeVariablesStandIn_47) ?_
      exact ⟨_, _, xb_z dm_Ro_typeVariablesStandIn_48 rfl (by omega), ⟨by rw [hR1 (by rw [hkn, List.drop_length]; trivial)], rfl⟩⟩
    · obtain ⟨x, hx⟩ : ∃ x, l[k]? = some x := ⟨_, List.getElem?_eq_getElem (by omega)⟩
      have hdl := drop_at hx
      have e1 : atL l kk = x := by rw [hkk]; exact atL_n hx
      have ix : ir (atL l kk) := atL_ir ri1 _
      have hpv : atL l ((k + 1 : Nat) - 1 : Int) = x := by rw [show ((k + 1 : Nat) - 1 : Int) = (k : Int) by omega]; exact atL_n hx
      have hio : ioT l kk ↔ (x < 10 ∧ atL l ((k : Int) - 1) ≠ 10 ∧ atL l ((k : Int) - 1) ≠ 11) := by unfold ioT; rw [e1, hkk]
      have nx := fun (hst : ((x < 10 ∧ atL l ((k : Int) - 1) ≠ 10 ∧ atL l ((k : Int) - 1) ≠ 11) ∧ 2 ≤ x → x ∈ v)) => ih (k + 1) (kk + 1) (by omega) (by omega) (by omega) (fun ht => hR1 (by rw [hdl]; exact ⟨hst, by rw [hpv] at ht; exact ht⟩)) (fun ht => hR0 (by rw [hdl]; rintro ⟨-, h9⟩; exact ht (by rw [hpv]; exact h9)))
      refine xx (xs_iload_n dm_Ro_typeVariablesStandIn_2 rfl) ?_
      refine xx (xs_aload_n dm_Ro_typeVariablesStandIn_3 rfl) ?_
      refine xx (xs_getf dm_Ro_typeVariablesStandIn_4 lf_Ro_19 rc1 rfl) ?_
      refine xx (xs_icmp_ge_f (tgt := 47) dm_Ro_typeVariablesStandIn_7 rfl (by unfold ir; omega) (by unfold ir; omega) (by omega)) ?_
      refine xx (xs_aload_n dm_Ro_typeVariablesStandIn_10 rfl) ?_
      refine xx (xs_iload_n dm_Ro_typeVariablesStandIn_11 rfl) ?_
      by_cases ho : ioT l kk
      · refine xcV (as := [.inl kk]) (rest := []) dm_Ro_typeVariablesStandIn_12 lc_Ro_isOfType lm_Ro_47 li_Ro_isOfType (nr rfl rfl) rfl rfl rc1 rfl (nl rfl) (ro_isOfType (R := 1) hr1' (by omega) (fun _ => rfl) (fun h => absurd ho h)) ?_
        rintro _ h1 ⟨rfl, hh1⟩
        have hh1 := hh1.symm
        subst hh1
        show x_X _ 15 [some (.inr (some a)), some (.inr (some b)), some (.inl kk)] [.inl 1] _ _
        refine xx (xs_if_eq_f (tgt := 41) dm_Ro_typeVariablesStandIn_15 rfl (by unfold ir; omega) (by decide)) ?_
        refine xx (xs_aload_n dm_Ro_typeVariablesStandIn_18 rfl) ?_
        refine xx (xs_iload_n dm_Ro_typeVariablesStandIn_19 rfl) ?_
        refine xcV (as := [.inl kk]) (rest := []) dm_Ro_typeVariablesStandIn_20 lc_Ro_at lm_Ro_25 li_Ro_at (nr rfl rfl) rfl rfl rc1 rfl (nl rfl) (ro_at hr1' (by unfold ir; omega)) ?_
        rintro _ h1 ⟨rfl, hh1⟩
        have hh1 := hh1.symm
        subst hh1
        show x_X _ 23 [some (.inr (some a)), some (.inr (some b)), some (.inl kk)] [.inl (atL l kk)] _ _
        refine xx (xs_iconst dm_Ro_typeVariablesStandIn_23) ?_
        refine xx_icmp_lt (tgt := 41) dm_Ro_typeVariablesStandIn_24 rfl ix (by unfold ir; omega) (fun hc => ?_) (fun hc => ?_)
        · change x_X _ 41 _ _ _ _
          rw [e1] at hc
          refine xx (xs_iinc dm_Ro_typeVariablesStandIn_41 rfl (by decide)) ?_
          show x_X _ 44 [some (.inr (some a)), some (.inr (some b)), some (.inl (kk + 1))] [] _ _
          refine xx (xs_goto (tgt := 2) dm_Ro_typeVariablesStandIn_44 rfl) ?_
          exact nx (fun h => absurd h.2 (by omega))
        · change x_X _ 27 _ _ _ _
          rw [e1] at hc
          refine xx (xs_aload_n dm_Ro_typeVariablesStandIn_27 rfl) ?_
          refine xx (xs_aload_n dm_Ro_typeVariablesStandIn_28 rfl) ?_
          refine xx (xs_iload_n dm_Ro_typeVariablesStandIn_29 rfl) ?_
          refine xcV (as := [.inl kk]) (rest := [.inr (some b)]) dm_Ro_typeVariablesStandIn_30 lc_Ro_at lm_Ro_25 li_Ro_at (nr rfl rfl) rfl rfl rc1 rfl (nl rfl) (ro_at hr1' (by unfold ir; omega)) ?_
          rintro _ h1 ⟨rfl, hh1⟩
          have hh1 := hh1.symm
          subst hh1
          show x_X _ 33 [some (.inr (some a)), some (.inr (some b)), some (.inl kk)] [.inl (atL l kk), .inr (some b)] _ _
          refine xcV (as := [.inl (atL l kk)]) (rest := []) dm_Ro_typeVariablesStandIn_33 lc_Ro_has lm_Ro_43 li_Ro_has (nr rfl rfl) rfl rfl rc2 rfl (nl rfl) (ro_has hr2' ix) ?_
          rintro _ h1 ⟨rfl, hh1⟩
          have hh1 := hh1.symm
          subst hh1
          show x_X _ 36 [some (.inr (some a)), some (.inr (some b)), some (.inl kk)] [.inl (if atL l kk ∈ v then 1 else 0)] _ _
          rw [e1]
          by_cases hm : x ∈ v
          · rw [if_pos hm]
            refine xx (xs_if_ne_t (tgt := 41) dm_Ro_typeVariablesStandIn_36 rfl (by unfold ir; omega) (by decide)) ?_
            refine xx (xs_iinc dm_Ro_typeVariablesStandIn_41 rfl (by decide)) ?_
            show x_X _ 44 [some (.inr (some a)), some (.inr (some b)), some (.inl (kk + 1))] [] _ _
            refine xx (xs_goto (tgt := 2) dm_Ro_typeVariablesStandIn_44 rfl) ?_
            exact nx (fun _ => hm)
          · rw [if_neg hm]
            refine xx (xs_if_ne_f (tgt := 41) dm_Ro_typeVariablesStandIn_36 rfl (by unfold ir; omega) (by decide)) ?_
            refine xx (xs_iconst dm_Ro_typeVariablesStandIn_39) ?_
            exact ⟨_, _, xb_z dm_Ro_typeVariablesStandIn_40 rfl (by omega), ⟨by rw [hR0 (by rw [hdl]; rintro ⟨h9, -⟩; exact hm (h9 ⟨hio.mp ho, by omega⟩))], rfl⟩⟩
      · refine xcV (as := [.inl kk]) (rest := []) dm_Ro_typeVariablesStandIn_12 lc_Ro_isOfType lm_Ro_47 li_Ro_isOfType (nr rfl rfl) rfl rfl rc1 rfl (nl rfl) (ro_isOfType (R := 0) hr1' (by omega) (fun h => absurd h ho) (fun _ => rfl)) ?_
        rintro _ h1 ⟨rfl, hh1⟩
        have hh1 := hh1.symm
        subst hh1
        show x_X _ 15 [some (.inr (some a)), some (.inr (some b)), some (.inl kk)] [.inl 0] _ _
        refine xx (xs_if_eq_t (tgt := 41) dm_Ro_typeVariablesStandIn_15 rfl (by unfold ir; omega) (by decide)) ?_
        refine xx (xs_iinc dm_Ro_typeVariablesStandIn_41 rfl (by decide)) ?_
        show x_X _ 44 [some (.inr (some a)), some (.inr (some b)), some (.inl (kk + 1))] [] _ _
        refine xx (xs_goto (tgt := 2) dm_Ro_typeVariablesStandIn_44 rfl) ?_
        exact nx (fun h => absurd (hio.mpr h.1) ho)
set_option maxHeartbeats 4000000 in
set_option maxRecDepth 100000 in
theorem ro_tvsi {h : xH} {a b : Nat} {l v : List Int} {R : Int} (hr1 : rwA h a l) (hr2 : rwA h b v) (hR1 : tvC v l (-1) → R = 1) (hR0 : ¬ tvC v l (-1) → R = 0) : x_Mx mm_Ro_typeVariablesStandIn [.inr (some a), .inr (some b)] h (fun r hf => r = some (.inl R) ∧ hf = h) := by
  refine xmx rfl (nl rfl) ?_
  show x_X _ 0 [some (.inr (some a)), some (.inr (some b)), none] [] _ _
  refine xx (xs_iconst dm_Ro_typeVariablesStandIn_0) ?_
  refine xx (xs_istore_n dm_Ro_typeVariablesStandIn_1 (by decide)) ?_
  show x_X _ 2 [some (.inr (some a)), some (.inr (some b)), some (.inl 0)] [] _ _
  have e0 : atL l (((0 : Nat) : Int) - 1) = -1 := atL_o (by omega)
  exact ro_tvsi_l hr1 hr2 (l.length + 1) 0 0 (by omega) (by omega) rfl (by rw [e0]; simpa using hR1) (by rw [e0]; simpa using hR0)
set_option maxHeartbeats 4000000 in
set_option maxRecDepth 100000 in
theorem ro_typeEnd_l {h : xH} {a : Nat} {l : List Int} {p0 : Int} {r0 : List Int} (hr1 : rwA h a l)  : ∀ (N k n : Nat) (nn kk : Int), l.length - k < N → k ≤ l.length → kk = k → nn = n → n + l.length ≤ 1000 + k → tyS (l.drop k) n = some r0 → x_X mm_Ro_typeEnd 4 [some (.inr (some a)), some (.inl p0), some (.inl nn), some (.inl kk)] [] h (fun r hf => r = some (.inl ((l.length : Int) - (r0.length : Int))) ∧ hf = h) := by
  intro N
  induction N with
  | zero => intro k n nn kk hN; omega
  | succ N ih =>
    intro k n nn kk hN hk hkk hnn hnb ht
    have hr1' := hr1
    have l1 := rwA_len hr1
    obtain ⟨ra1, ri1, s1, f1, A1, rs1, rc1, rd1, rl1, rf1, rg1⟩ := hr1
    by_cases hkn : k = l.length
    · have hr0 : r0 = [] := by
        rw [hkn, List.drop_length, tyS] at ht
        split at ht
        · simpa using ht.symm
        · simp at ht
      refine xx (xs_iload_n dm_Ro_typeEnd_4 rfl) ?_
      refine xx (xs_aload_n dm_Ro_typeEnd_5 rfl) ?_
      refine xx (xs_getf dm_Ro_typeEnd_6 lf_Ro_19 rc1 rfl) ?_
      refine xx (xs_icmp_ge_t (tgt := 38) dm_Ro_typeEnd_9 rfl (by unfold ir; omega) (by unfold ir; omega) (by omega)) ?_
      refine xx (xs_iload_n dm_Ro_typeEnd_38 rfl) ?_
      exact ⟨_, _, xb_i dm_Ro_typeEnd_39 rfl, ⟨by rw [hr0, hkk, hkn]; simp, rfl⟩⟩
    · obtain ⟨x, hx⟩ : ∃ x, l[k]? = some x := ⟨_, List.getElem?_eq_getElem (by omega)⟩
      have hdl := drop_at hx
      have e1 : atL l kk = x := by rw [hkk]; exact atL_n hx
      have ix : ir (atL l kk) := atL_ir ri1 _
      rw [hdl] at ht
      unfold tyS at ht
      refine xx (xs_iload_n dm_Ro_typeEnd_4 rfl) ?_
      refine xx (xs_aload_n dm_Ro_typeEnd_5 rfl) ?_
      refine xx (xs_getf dm_Ro_typeEnd_6 lf_Ro_19 rc1 rfl) ?_
      refine xx (xs_icmp_ge_f (tgt := 38) dm_Ro_typeEnd_9 rfl (by unfold ir; omega) (by unfold ir; omega) (by omega)) ?_
      refine xx (xs_iload_n dm_Ro_typeEnd_12 rfl) ?_
      refine xx_if_le (tgt := 38) dm_Ro_typeEnd_13 rfl (by unfold ir; omega) (fun hc => ?_) (fun hc => ?_)
      · change x_X _ 38 _ _ _ _
        rw [if_pos (by omega)] at ht
        have hr0 : r0.length = l.length - k := by have h9 : x :: l.drop (k + 1) = r0 := by simpa using ht
                                                  rw [← h9, ← hdl]; simp
        refine xx (xs_iload_n dm_Ro_typeEnd_38 rfl) ?_
        exact ⟨_, _, xb_i dm_Ro_typeEnd_39 rfl, ⟨by rw [hr0, hkk]; congr 2; omega, rfl⟩⟩
      · change x_X _ 16 _ _ _ _
        rw [if_neg (by omega)] at ht
        refine xx (xs_iload_n dm_Ro_typeEnd_16 rfl) ?_
        refine xx (xs_aload_n dm_Ro_typeEnd_17 rfl) ?_
        refine xx (xs_iload_n dm_Ro_typeEnd_18 rfl) ?_
        refine xcV (as := [.inl kk]) (rest := [.inl nn]) dm_Ro_typeEnd_19 lc_Ro_at lm_Ro_25 li_Ro_at (nr rfl rfl) rfl rfl rc1 rfl (nl rfl) (ro_at hr1' (by unfold ir; omega)) ?_
        rintro _ h1 ⟨rfl, hh1⟩
        have hh1 := hh1.symm
        subst hh1
        show x_X _ 22 [some (.inr (some a)), some (.inl p0), some (.inl nn), some (.inl kk)] [.inl (atL l kk), .inl nn] _ _
        refine xx_if_ne (tgt := 29) dm_Ro_typeEnd_22 rfl ix (fun hc2 => ?_) (fun hc2 => ?_)
        · change x_X _ 29 _ _ _ _
          rw [e1] at hc2
          rw [if_neg hc2] at ht
          refine xx (xs_iconst dm_Ro_typeEnd_29) ?_
          refine xx (xs_iadd dm_Ro_typeEnd_30) ?_
          refine xx (xs_istore_n dm_Ro_typeEnd_31 (by decide)) ?_
          show x_X _ 32 [some (.inr (some a)), some (.inl p0), some (.inl (nn + (-1))), some (.inl kk)] [] _ _
          refine xx (xs_iinc dm_Ro_typeEnd_32 rfl (by decide)) ?_
          show x_X _ 35 [some (.inr (some a)), some (.inl p0), some (.inl (nn + (-1))), some (.inl (kk + 1))] [] _ _
          refine xx (xs_goto (tgt := 4) dm_Ro_typeEnd_35 rfl) ?_
          exact ih (k + 1) (n - 1) _ _ (by omega) (by omega) (by omega) (by omega) (by omega) ht
        · change x_X _ 25 _ _ _ _
          rw [e1] at hc2
          rw [if_pos hc2] at ht
          refine xx (xs_iconst dm_Ro_typeEnd_25) ?_
          refine xx (xs_goto (tgt := 30) dm_Ro_typeEnd_26 rfl) ?_
          refine xx (xs_iadd dm_Ro_typeEnd_30) ?_
          refine xx (xs_istore_n dm_Ro_typeEnd_31 (by decide)) ?_
          show x_X _ 32 [some (.inr (some a)), some (.inl p0), some (.inl (nn + 1)), some (.inl kk)] [] _ _
          refine xx (xs_iinc dm_Ro_typeEnd_32 rfl (by decide)) ?_
          show x_X _ 35 [some (.inr (some a)), some (.inl p0), some (.inl (nn + 1)), some (.inl (kk + 1))] [] _ _
          refine xx (xs_goto (tgt := 4) dm_Ro_typeEnd_35 rfl) ?_
          exact ih (k + 1) (n + 1) _ _ (by omega) (by omega) (by omega) (by omega) (by omega) ht
set_option maxHeartbeats 4000000 in
set_option maxRecDepth 100000 in
theorem ro_typeEnd {h : xH} {a : Nat} {l r0 : List Int} {p : Int} {k : Nat} (hr1 : rwA h a l) (hp : p = k) (hk : k ≤ l.length) (ht : tyS (l.drop k) 1 = some r0) : x_Mx mm_Ro_typeEnd [.inr (some a), .inl p] h (fun r hf => r = some (.inl ((l.length : Int) - (r0.length : Int))) ∧ hf = h) := by
  refine xmx rfl (nl rfl) ?_
  have l1 := rwA_len hr1
  show x_X _ 0 [some (.inr (some a)), some (.inl p), none, none] [] _ _
  refine xx (xs_iconst dm_Ro_typeEnd_0) ?_
  refine xx (xs_istore_n dm_Ro_typeEnd_1 (by decide)) ?_
  show x_X _ 2 [some (.inr (some a)), some (.inl p), some (.inl 1), none] [] _ _
  refine xx (xs_iload_n dm_Ro_typeEnd_2 rfl) ?_
  refine xx (xs_istore_n dm_Ro_typeEnd_3 (by decide)) ?_
  show x_X _ 4 [some (.inr (some a)), some (.inl p), some (.inl 1), some (.inl p)] [] _ _
  exact ro_typeEnd_l hr1 (l.length + 1) k 1 1 p (by omega) hk hp rfl (by omega) ht
set_option maxHeartbeats 4000000 in
set_option maxRecDepth 100000 in
theorem ro_termEnd_l {h : xH} {a : Nat} {l : List Int} {p0 : Int} {r0 : List Int} (hr1 : rwA h a l)  : ∀ (N k n : Nat) (nn kk : Int) (o4 : Option xV), l.length - k < N → k ≤ l.length → kk = k → nn = n → n + l.length ≤ 1000 + k → tmS (l.drop k) n = r0 → x_X mm_Ro_termEnd 4 [some (.inr (some a)), some (.inl p0), some (.inl nn), some (.inl kk), o4] [] h (fun r hf => r = some (.inl ((l.length : Int) - (r0.length : Int))) ∧ hf = h) := by
  intro N
  induction N with
  | zero => intro k n nn kk o4 hN; omega
  | succ N ih =>
    intro k n nn kk o4 hN hk hkk hnn hnb ht
    have hr1' := hr1
    have l1 := rwA_len hr1
    obtain ⟨ra1, ri1, s1, f1, A1, rs1, rc1, rd1, rl1, rf1, rg1⟩ := hr1
    by_cases hkn : k = l.length
    · have hr0 : r0 = [] := by rw [hkn, List.drop_length, tmS] at ht; exact ht.symm
      refine xx (xs_iload_n dm_Ro_termEnd_4 rfl) ?_
      refine xx (xs_aload_n dm_Ro_termEnd_5 rfl) ?_
      refine xx (xs_getf dm_Ro_termEnd_6 lf_Ro_19 rc1 rfl) ?_
      refine xx (xs_icmp_ge_t (tgt := 64) dm_Ro_termEnd_9 rfl (by unfold ir; omega) (by unfold ir; omega) (by omega)) ?_
      refine xx (xs_aload_n dm_Ro_termEnd_64 rfl) ?_
      refine xx (xs_getf dm_Ro_termEnd_65 lf_Ro_19 rc1 rfl) ?_
      exact ⟨_, _, xb_i dm_Ro_termEnd_68 rfl, ⟨by rw [hr0]; simp, rfl⟩⟩
    · obtain ⟨x, hx⟩ : ∃ x, l[k]? = some x := ⟨_, List.getElem?_eq_getElem (by omega)⟩
      have hdl := drop_at hx
      have e1 : atL l kk = x := by rw [hkk]; exact atL_n hx
      have ix : ir (atL l kk) := atL_ir ri1 _
      rw [hdl] at ht
      unfold tmS at ht
      refine xx (xs_iload_n dm_Ro_termEnd_4 rfl) ?_
      refine xx (xs_aload_n dm_Ro_termEnd_5 rfl) ?_
      refine xx (xs_getf dm_Ro_termEnd_6 lf_Ro_19 rc1 rfl) ?_
      refine xx (xs_icmp_ge_f (tgt := 64) dm_Ro_termEnd_9 rfl (by unfold ir; omega) (by unfold ir; omega) (by omega)) ?_
      refine xx (xs_aload_n dm_Ro_termEnd_12 rfl) ?_
      refine xx (xs_iload_n dm_Ro_termEnd_13 rfl) ?_
      refine xcV (as := [.inl kk]) (rest := []) dm_Ro_termEnd_14 lc_Ro_at lm_Ro_25 li_Ro_at (nr rfl rfl) rfl rfl rc1 rfl (nl rfl) (ro_at hr1' (by unfold ir; omega)) ?_
      rintro _ h1 ⟨rfl, hh1⟩
      have hh1 := hh1.symm
      subst hh1
      show x_X _ 17 [some (.inr (some a)), some (.inl p0), some (.inl nn), some (.inl kk), o4] [.inl (atL l kk)] _ _
      refine xx (xs_bipush dm_Ro_termEnd_17 (by decide)) ?_
      refine xx_icmp_lt (tgt := 26) dm_Ro_termEnd_19 rfl ix (by unfold ir; omega) (fun hc => ?_) (fun hc => ?_)
      · change x_X _ 26 _ _ _ _
        rw [e1] at hc
        rw [if_pos hc] at ht
        refine xx (xs_iconst dm_Ro_termEnd_26) ?_
        refine xx (xs_istore dm_Ro_termEnd_27 (by decide)) ?_
        show x_X _ 29 [some (.inr (some a)), some (.inl p0), some (.inl nn), some (.inl kk), some (.inl 0)] [] _ _
        refine xx (xs_iload dm_Ro_termEnd_29 rfl) ?_
        refine xx (xs_if_eq_t (tgt := 40) dm_Ro_termEnd_31 rfl (by unfold ir; omega) (by decide)) ?_
        refine xx (xs_iload dm_Ro_termEnd_40 rfl) ?_
        refine xx (xs_if_eq_t (tgt := 58) dm_Ro_termEnd_42 rfl (by unfold ir; omega) (by decide)) ?_
        refine xx (xs_iinc dm_Ro_termEnd_58 rfl (by decide)) ?_
        show x_X _ 61 [some (.inr (some a)), some (.inl p0), some (.inl nn), some (.inl (kk + 1)), some (.inl 0)] [] _ _
        refine xx (xs_goto (tgt := 4) dm_Ro_termEnd_61 rfl) ?_
        exact ih (k + 1) n _ _ _ (by omega) (by omega) (by omega) (by omega) (by omega) ht
      · change x_X _ 22 _ _ _ _
        rw [e1] at hc
        rw [if_neg (by omega)] at ht
        refine xx (xs_iconst dm_Ro_termEnd_22) ?_
        refine xx (xs_goto (tgt := 27) dm_Ro_termEnd_23 rfl) ?_
        refine xx (xs_istore dm_Ro_termEnd_27 (by decide)) ?_
        show x_X _ 29 [some (.inr (some a)), some (.inl p0), some (.inl nn), some (.inl kk), some (.inl 1)] [] _ _
        refine xx (xs_iload dm_Ro_termEnd_29 rfl) ?_
        refine xx (xs_if_eq_f (tgt := 40) dm_Ro_termEnd_31 rfl (by unfold ir; omega) (by decide)) ?_
        refine xx (xs_iload_n dm_Ro_termEnd_34 rfl) ?_
        refine xx_if_ne (tgt := 40) dm_Ro_termEnd_35 rfl (by unfold ir; omega) (fun hc2 => ?_) (fun hc2 => ?_)
        · change x_X _ 40 _ _ _ _
          rw [if_neg (by omega)] at ht
          refine xx (xs_iload dm_Ro_termEnd_40 rfl) ?_
          refine xx (xs_if_eq_f (tgt := 58) dm_Ro_termEnd_42 rfl (by unfold ir; omega) (by decide)) ?_
          refine xx (xs_iload_n dm_Ro_termEnd_45 rfl) ?_
          refine xx (xs_aload_n dm_Ro_termEnd_46 rfl) ?_
          refine xx (xs_iload_n dm_Ro_termEnd_47 rfl) ?_
          refine xcV (as := [.inl kk]) (rest := [.inl nn]) dm_Ro_termEnd_48 lc_Ro_at lm_Ro_25 li_Ro_at (nr rfl rfl) rfl rfl rc1 rfl (nl rfl) (ro_at hr1' (by unfold ir; omega)) ?_
          rintro _ h1 ⟨rfl, hh1⟩
          have hh1 := hh1.symm
          subst hh1
          show x_X _ 51 [some (.inr (some a)), some (.inl p0), some (.inl nn), some (.inl kk), some (.inl 1)] [.inl (atL l kk), .inl nn] _ _
          refine xcS (as := [.inl (atL l kk)]) (rest := [.inl nn]) dm_Ro_termEnd_51 lc_Ro_termsWithin lm_Ro_29 li_Ro_termsWithin (nr rfl rfl) rfl rfl (nl rfl) (ro_tw ix) ?_
          rintro _ h1 ⟨rfl, hh1⟩
          have hh1 := hh1.symm
          subst hh1
          show x_X _ 54 [some (.inr (some a)), some (.inl p0), some (.inl nn), some (.inl kk), some (.inl 1)] [.inl (tw (atL l kk)), .inl nn] _ _
          refine xx (xs_iconst dm_Ro_termEnd_54) ?_
          refine xx (xs_isub dm_Ro_termEnd_55) ?_
          refine xx (xs_iadd dm_Ro_termEnd_56) ?_
          refine xx (xs_istore_n dm_Ro_termEnd_57 (by decide)) ?_
          show x_X _ 58 [some (.inr (some a)), some (.inl p0), some (.inl (nn + ((tw (atL l kk)) - 1))), some (.inl kk), some (.inl 1)] [] _ _
          refine xx (xs_iinc dm_Ro_termEnd_58 rfl (by decide)) ?_
          show x_X _ 61 [some (.inr (some a)), some (.inl p0), some (.inl (nn + ((tw (atL l kk)) - 1))), some (.inl (kk + 1)), some (.inl 1)] [] _ _
          refine xx (xs_goto (tgt := 4) dm_Ro_termEnd_61 rfl) ?_
          rw [e1]
          by_cases h12 : x = 12
          · rw [if_pos h12] at ht
            exact ih (k + 1) (n + 1) _ _ _ (by omega) (by omega) (by omega) (by rw [tw, if_pos h12]; omega) (by omega) ht
          · rw [if_neg h12] at ht
            by_cases h13 : x = 13
            · rw [if_pos h13] at ht
              exact ih (k + 1) n _ _ _ (by omega) (by omega) (by omega) (by rw [tw, if_neg h12, if_pos h13]; omega) (by omega) ht
            · rw [if_neg h13] at ht
              exact ih (k + 1) (n - 1) _ _ _ (by omega) (by omega) (by omega) (by rw [tw, if_neg h12, if_neg h13]; omega) (by omega) ht
        · change x_X _ 38 _ _ _ _
          rw [if_pos (by omega)] at ht
          have hr0 : r0.length = l.length - k := by rw [← ht, ← hdl]; simp
          refine xx (xs_iload_n dm_Ro_termEnd_38 rfl) ?_
          exact ⟨_, _, xb_i dm_Ro_termEnd_39 rfl, ⟨by rw [hr0, hkk]; congr 2; omega, rfl⟩⟩
set_option maxHeartbeats 4000000 in
set_option maxRecDepth 100000 in
theorem ro_termEnd {h : xH} {a : Nat} {l r0 : List Int} {p : Int} {k : Nat} (hr1 : rwA h a l) (hp : p = k) (hk : k ≤ l.length) (ht : tmS (l.drop k) 1 = r0) : x_Mx mm_Ro_termEnd [.inr (some a), .inl p] h (fun r hf => r = some (.inl ((l.length : Int) - (r0.length : Int))) ∧ hf = h) := by
  refine xmx rfl (nl rfl) ?_
  have l1 := rwA_len hr1
  show x_X _ 0 [some (.inr (some a)), some (.inl p), none, none, none] [] _ _
  refine xx (xs_iconst dm_Ro_termEnd_0) ?_
  refine xx (xs_istore_n dm_Ro_termEnd_1 (by decide)) ?_
  show x_X _ 2 [some (.inr (some a)), some (.inl p), some (.inl 1), none, none] [] _ _
  refine xx (xs_iload_n dm_Ro_termEnd_2 rfl) ?_
  refine xx (xs_istore_n dm_Ro_termEnd_3 (by decide)) ?_
  show x_X _ 4 [some (.inr (some a)), some (.inl p), some (.inl 1), some (.inl p), none] [] _ _
  exact ro_termEnd_l hr1 (l.length + 1) k 1 1 p _ (by omega) hk hp rfl (by omega) ht
