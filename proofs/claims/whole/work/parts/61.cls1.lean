/-! the methods of a row -/
set_option maxHeartbeats 4000000 in
set_option maxRecDepth 100000 in
theorem ro_at {h : xH} {a : Nat} {l : List Int} {p : Int} (hr : rwA h a l) (hp : ir p) : x_Mx mm_Ro_at [.inr (some a), .inl p] h (fun r hf => r = some (.inl (atL l p)) ∧ hf = h) := by
  refine xmx rfl (nl rfl) ?_
  obtain ⟨ra, ri, s, f, A, rs, rc, rd, rl, rf, rg⟩ := hr
  have h81 : l.length ≤ 81 := by omega
  show x_X _ 0 [some (.inr (some a)), some (.inl p)] [] _ _
  refine xx (xs_iload_n dm_Ro_at_0 rfl) ?_
  refine xx_if_lt (tgt := 26) dm_Ro_at_1 rfl hp (fun hc => ?_) (fun hc => ?_)
  · change x_X _ 26 _ _ _ _
    refine xx (xs_iconst dm_Ro_at_26) ?_
    exact ⟨_, _, xb_i dm_Ro_at_27 rfl, ⟨by rw [atL_o (by omega)], rfl⟩⟩
  · change x_X _ 4 _ _ _ _
    refine xx (xs_iload_n dm_Ro_at_4 rfl) ?_
    refine xx (xs_aload_n dm_Ro_at_5 rfl) ?_
    refine xx (xs_getf dm_Ro_at_6 lf_Ro_19 rc rfl) ?_
    refine xx_icmp_ge (tgt := 26) dm_Ro_at_9 rfl hp (by unfold ir; omega) (fun hc2 => ?_) (fun hc2 => ?_)
    · change x_X _ 26 _ _ _ _
      refine xx (xs_iconst dm_Ro_at_26) ?_
      exact ⟨_, _, xb_i dm_Ro_at_27 rfl, ⟨by rw [atL_o (by omega)], rfl⟩⟩
    · change x_X _ 12 _ _ _ _
      obtain ⟨i, hi⟩ : ∃ i : Nat, p = (i : Int) := ⟨p.toNat, by omega⟩
      subst hi
      obtain ⟨x, hx⟩ : ∃ x, l[i]? = some x := ⟨_, List.getElem?_eq_getElem (by omega)⟩
      have hA := rg i x hx
      refine xx (xs_aload_n dm_Ro_at_12 rfl) ?_
      refine xx (xs_getf dm_Ro_at_13 lf_Ro_9 rc rfl) ?_
      refine xx (xs_aload_n dm_Ro_at_16 rfl) ?_
      refine xx (xs_getf dm_Ro_at_17 lf_Ro_15 rc rfl) ?_
      refine xx (xs_iload_n dm_Ro_at_20 rfl) ?_
      refine xx (xs_iadd dm_Ro_at_21) ?_
      refine xx (xs_iald (x := x) dm_Ro_at_22 rd (by omega) (by rw [show ((f : Int) + (i : Int)).toNat = f + i by omega]; exact hA) (by omega)) ?_
      refine xx (xs_goto (tgt := 27) dm_Ro_at_23 rfl) ?_
      exact ⟨_, _, xb_i dm_Ro_at_27 rfl, ⟨by rw [atL_n hx], rfl⟩⟩
def tw (s : Int) : Int := if s = 12 then 2 else if s = 13 then 1 else 0
set_option maxHeartbeats 4000000 in
set_option maxRecDepth 100000 in
theorem ro_tw {h : xH} {s : Int} (hs : ir s) : x_Mx mm_Ro_termsWithin [.inl s] h (fun r hf => r = some (.inl (tw s)) ∧ hf = h) := by
  refine xmx rfl (nl rfl) ?_
  show x_X _ 0 [some (.inl s)] [] _ _
  refine xx (xs_iload_n dm_Ro_termsWithin_0 rfl) ?_
  refine xx (xs_bipush dm_Ro_termsWithin_1 (by decide)) ?_
  refine xx_icmp_ne (tgt := 8) dm_Ro_termsWithin_3 rfl hs (by unfold ir; omega) (fun hc => ?_) (fun hc => ?_)
  · change x_X _ 8 _ _ _ _
    refine xx (xs_iload_n dm_Ro_termsWithin_8 rfl) ?_
    refine xx (xs_bipush dm_Ro_termsWithin_9 (by decide)) ?_
    refine xx_icmp_ne (tgt := 18) dm_Ro_termsWithin_11 rfl hs (by unfold ir; omega) (fun hc2 => ?_) (fun hc2 => ?_)
    · change x_X _ 18 _ _ _ _
      refine xx (xs_iconst dm_Ro_termsWithin_18) ?_
      exact ⟨_, _, xb_i dm_Ro_termsWithin_19 rfl, ⟨by rw [tw, if_neg hc, if_neg hc2], rfl⟩⟩
    · change x_X _ 14 _ _ _ _
      refine xx (xs_iconst dm_Ro_termsWithin_14) ?_
      refine xx (xs_goto (tgt := 19) dm_Ro_termsWithin_15 rfl) ?_
      exact ⟨_, _, xb_i dm_Ro_termsWithin_19 rfl, ⟨by rw [tw, if_neg hc, if_pos (by omega)], rfl⟩⟩
  · change x_X _ 6 _ _ _ _
    refine xx (xs_iconst dm_Ro_termsWithin_6) ?_
    exact ⟨_, _, xb_i dm_Ro_termsWithin_7 rfl, ⟨by rw [tw, if_pos (by omega)], rfl⟩⟩
/-- what a row's constructor makes of its bounds -/
def okB (n : Nat) (f t : Int) : Prop := 0 ≤ f ∧ f ≤ t ∧ t ≤ (n : Int)
set_option maxHeartbeats 4000000 in
set_option maxRecDepth 100000 in
theorem ro_init {h : xH} {a s : Nat} {A : List Int} {f t : Int} (ha : h.1[a]? = some (.inr (.inr (4, [.inr none, .inl 0, .inl 0])))) (hs : h.1[s]? = some (.inl A)) (hA : A.length ≤ 10000) (hf : ir f) (ht : ir t) (hb : okB A.length f t) : x_Mx mm_Ro_init [.inr (some a), .inr (some s), .inl f, .inl t] h (fun r hf => r = none ∧ hf = (h.1.set a (.inr (.inr (4, [.inr (some s), .inl f, .inl (t - f)]))), h.2)) := by
  refine xmx rfl (nl rfl) ?_
  obtain ⟨b0, b1, b2⟩ := hb
  show x_X _ 0 [some (.inr (some a)), some (.inr (some s)), some (.inl f), some (.inl t), none] [] _ _
  refine xx (xs_aload_n dm_Ro_init_0 rfl) ?_
  refine xx (xs_obj dm_Ro_init_1 lo_Ro_3 ⟨nl rfl, nl rfl⟩) ?_
  refine xx (xs_iload_n dm_Ro_init_4 rfl) ?_
  refine xx (xs_if_lt_f (tgt := 23) dm_Ro_init_5 rfl hf (by omega)) ?_
  refine xx (xs_iload_n dm_Ro_init_8 rfl) ?_
  refine xx (xs_iload_n dm_Ro_init_9 rfl) ?_
  refine xx (xs_icmp_gt_f (tgt := 23) dm_Ro_init_10 rfl hf ht (by omega)) ?_
  refine xx (xs_iload_n dm_Ro_init_13 rfl) ?_
  refine xx (xs_aload_n dm_Ro_init_14 rfl) ?_
  refine xx (xs_alenI dm_Ro_init_15 hs) ?_
  refine xx (xs_icmp_gt_f (tgt := 23) dm_Ro_init_16 rfl ht (by unfold ir; omega) (by omega)) ?_
  refine xx (xs_iconst dm_Ro_init_19) ?_
  refine xx (xs_goto (tgt := 24) dm_Ro_init_20 rfl) ?_
  refine xx (xs_istore dm_Ro_init_24 (by decide)) ?_
  show x_X _ 26 [some (.inr (some a)), some (.inr (some s)), some (.inl f), some (.inl t), some (.inl 1)] [] _ _
  refine xx (xs_aload_n dm_Ro_init_26 rfl) ?_
  refine xx (xs_aload_n dm_Ro_init_27 rfl) ?_
  refine xx (xs_putf dm_Ro_init_28 lp_Ro_9 ha (nl rfl) (x_ft_a _ _)) ?_
  show x_X _ 31 [some (.inr (some a)), some (.inr (some s)), some (.inl f), some (.inl t), some (.inl 1)] [] (h.1.set a (.inr (.inr (4, [.inr (some s), .inl 0, .inl 0]))), h.2) _
  refine xx (xs_aload_n dm_Ro_init_31 rfl) ?_
  refine xx (xs_iload dm_Ro_init_32 rfl) ?_
  refine xx (xs_if_eq_f (tgt := 41) dm_Ro_init_34 rfl (by unfold ir; omega) (by decide)) ?_
  refine xx (xs_iload_n dm_Ro_init_37 rfl) ?_
  refine xx (xs_goto (tgt := 42) dm_Ro_init_38 rfl) ?_
  refine xx (xs_putf dm_Ro_init_42 lp_Ro_15 (set_at ha) (nl rfl) (x_ft_i _)) ?_
  rw [List.set_set]
  show x_X _ 45 [some (.inr (some a)), some (.inr (some s)), some (.inl f), some (.inl t), some (.inl 1)] [] (h.1.set a (.inr (.inr (4, [.inr (some s), .inl f, .inl 0]))), h.2) _
  refine xx (xs_aload_n dm_Ro_init_45 rfl) ?_
  refine xx (xs_iload dm_Ro_init_46 rfl) ?_
  refine xx (xs_if_eq_f (tgt := 57) dm_Ro_init_48 rfl (by unfold ir; omega) (by decide)) ?_
  refine xx (xs_iload_n dm_Ro_init_51 rfl) ?_
  refine xx (xs_iload_n dm_Ro_init_52 rfl) ?_
  refine xx (xs_isub dm_Ro_init_53) ?_
  refine xx (xs_goto (tgt := 58) dm_Ro_init_54 rfl) ?_
  refine xx (xs_putf dm_Ro_init_58 lp_Ro_19 (set_at ha) (nl rfl) (x_ft_i _)) ?_
  rw [List.set_set]
  show x_X _ 61 [some (.inr (some a)), some (.inr (some s)), some (.inl f), some (.inl t), some (.inl 1)] [] (h.1.set a (.inr (.inr (4, [.inr (some s), .inl f, .inl (t - f)]))), h.2) _
  exact ⟨_, _, xb_v dm_Ro_init_61 rfl, rfl, rfl⟩
set_option maxHeartbeats 4000000 in
set_option maxRecDepth 100000 in
theorem ro_holdsAt_l {h : xH} {a b : Nat} {l v : List Int} {p : Int} (hr1 : rwA h a l) (hr2 : rwA h b v) (hv9 : ∀ x ∈ v, x ≠ -1) (hp0 : 0 ≤ p) (hp1 : p ≤ 1000) : ∀ (N k : Nat) (kk : Int), v.length - k < N → k ≤ v.length → kk = k → x_X mm_Ro_holdsAt 2 [some (.inr (some a)), some (.inl p), some (.inr (some b)), some (.inl kk)] [] h (fun r hf => r = some (.inl (if (v.drop k).isPrefixOf (l.drop (p.toNat + k)) = true then 1 else 0)) ∧ hf = h) := by
  intro N
  induction N with
  | zero => intro k kk hN; omega
  | succ N ih =>
    intro k kk hN hk hkk
    have hr1' := hr1
    have hr2' := hr2
    have l1 := rwA_len hr1
    have l2 := rwA_len hr2
    obtain ⟨ra1, ri1, s1, f1, A1, rs1, rc1, rd1, rl1, rf1, rg1⟩ := hr1
    obtain ⟨ra2, ri2, s2, f2, A2, rs2, rc2, rd2, rl2, rf2, rg2⟩ := hr2
    by_cases hkn : k = v.length
    · refine xx (xs_iload_n dm_Ro_holdsAt_2 rfl) ?_
      refine xx (xs_aload_n dm_Ro_holdsAt_3 rfl) ?_
      refine xx (xs_getf dm_Ro_holdsAt_4 lf_Ro_19 rc2 rfl) ?_
      refine xx (xs_icmp_ge_t (tgt := 33) dm_Ro_holdsAt_7 rfl (by unfold ir; omega) (by unfold ir; omega) (by omega)) ?_
      refine xx (xs_iconst dm_Ro_holdsAt_33) ?_
      exact ⟨_, _, xb_z dm_Ro_holdsAt_34 rfl (by omega), ⟨by rw [hkn, List.drop_length]; rfl, rfl⟩⟩
    · obtain ⟨x, hx⟩ : ∃ x, v[k]? = some x := ⟨_, List.getElem?_eq_getElem (by omega)⟩
      have hdv : v.drop k = x :: v.drop (k + 1) := by
        rw [List.drop_eq_getElem_cons (by omega)]
        congr 1
        exact (List.getElem?_eq_some_iff.mp hx).2
      have e2 : atL v kk = x := by rw [hkk]; exact atL_n hx
      have i2 : ir (atL v kk) := atL_ir ri2 _
      have i1 : ir (atL l (p + kk)) := atL_ir ri1 _
      refine xx (xs_iload_n dm_Ro_holdsAt_2 rfl) ?_
      refine xx (xs_aload_n dm_Ro_holdsAt_3 rfl) ?_
      refine xx (xs_getf dm_Ro_holdsAt_4 lf_Ro_19 rc2 rfl) ?_
      refine xx (xs_icmp_ge_f (tgt := 33) dm_Ro_holdsAt_7 rfl (by unfold ir; omega) (by unfold ir; omega) (by omega)) ?_
      refine xx (xs_aload_n dm_Ro_holdsAt_10 rfl) ?_
      refine xx (xs_iload_n dm_Ro_holdsAt_11 rfl) ?_
      refine xx (xs_iload_n dm_Ro_holdsAt_12 rfl) ?_
      refine xx (xs_iadd dm_Ro_holdsAt_13) ?_
      refine xcV (as := [.inl (p + kk)]) (rest := []) dm_Ro_holdsAt_14 lc_Ro_at lm_Ro_25 li_Ro_at (nr rfl rfl) rfl rfl rc1 rfl (nl rfl) (ro_at hr1' (by unfold ir; omega)) ?_
      rintro _ h1 ⟨rfl, hh1⟩
      have hh1 := hh1.symm
      subst hh1
      show x_X _ 17 [some (.inr (some a)), some (.inl p), some (.inr (some b)), some (.inl kk)] [.inl (atL l (p + kk))] _ _
      refine xx (xs_aload_n dm_Ro_holdsAt_17 rfl) ?_
      refine xx (xs_iload_n dm_Ro_holdsAt_18 rfl) ?_
      refine xcV (as := [.inl kk]) (rest := [.inl (atL l (p + kk))]) dm_Ro_holdsAt_19 lc_Ro_at lm_Ro_25 li_Ro_at (nr rfl rfl) rfl rfl rc2 rfl (nl rfl) (ro_at hr2' (by unfold ir; omega)) ?_
      rintro _ h1 ⟨rfl, hh1⟩
      have hh1 := hh1.symm
      subst hh1
      show x_X _ 22 [some (.inr (some a)), some (.inl p), some (.inr (some b)), some (.inl kk)] [.inl (atL v kk), .inl (atL l (p + kk))] _ _
      refine xx_icmp_eq (tgt := 27) dm_Ro_holdsAt_22 rfl i1 i2 (fun hc => ?_) (fun hc => ?_)
      · change x_X _ 27 _ _ _ _
        by_cases hlt : p.toNat + k < l.length
        · obtain ⟨y, hy⟩ : ∃ y, l[p.toNat + k]? = some y := ⟨_, List.getElem?_eq_getElem hlt⟩
          have e1 : atL l (p + kk) = y := by rw [show p + kk = ((p.toNat + k : Nat) : Int) by omega]; exact atL_n hy
          have hdl : l.drop (p.toNat + k) = y :: l.drop (p.toNat + (k + 1)) := by
            rw [List.drop_eq_getElem_cons hlt]
            congr 1
            exact (List.getElem?_eq_some_iff.mp hy).2
          rw [e1, e2] at hc
          refine xx (xs_iinc dm_Ro_holdsAt_27 rfl (by decide)) ?_
          show x_X _ 30 [some (.inr (some a)), some (.inl p), some (.inr (some b)), some (.inl (kk + 1))] [] _ _
          refine xx (xs_goto (tgt := 2) dm_Ro_holdsAt_30 rfl) ?_
          refine xxq (ih (k + 1) _ (by omega) (by omega) (by omega)) ?_
          rintro _ _ ⟨rfl, rfl⟩
          refine ⟨?_, rfl⟩
          rw [hdv, hdl, hc]
          simp [List.isPrefixOf]
        · rw [atL_o (l := l) (by omega), e2] at hc
          exact absurd hc.symm (hv9 x (List.mem_of_getElem? hx))
      · change x_X _ 25 _ _ _ _
        refine xx (xs_iconst dm_Ro_holdsAt_25) ?_
        have hne : (v.drop k).isPrefixOf (l.drop (p.toNat + k)) = false := by
          rw [hdv]
          cases hd : l.drop (p.toNat + k) with
          | nil => rfl
          | cons y r =>
            have hy : l[p.toNat + k]? = some y := by rw [← List.head?_drop, hd]; rfl
            have e1 : atL l (p + kk) = y := by rw [show p + kk = ((p.toNat + k : Nat) : Int) by omega]; exact atL_n hy
            rw [e1, e2] at hc
            simp only [List.isPrefixOf, Bool.and_eq_false_iff]
            exact Or.inl (by simp; exact fun e => hc e.symm)
        exact ⟨_, _, xb_z dm_Ro_holdsAt_26 rfl (by omega), ⟨by rw [hne]; rfl, rfl⟩⟩
set_option maxHeartbeats 4000000 in
set_option maxRecDepth 100000 in
theorem ro_holdsAt {h : xH} {a b : Nat} {l v : List Int} {p : Int} (hr1 : rwA h a l) (hr2 : rwA h b v) (hv9 : ∀ x ∈ v, x ≠ -1) (hp0 : 0 ≤ p) (hp1 : p ≤ 1000) : x_Mx mm_Ro_holdsAt [.inr (some a), .inl p, .inr (some b)] h (fun r hf => r = some (.inl (if v.isPrefixOf (l.drop p.toNat) = true then 1 else 0)) ∧ hf = h) := by
  refine xmx rfl (nl rfl) ?_
  show x_X _ 0 [some (.inr (some a)), some (.inl p), some (.inr (some b)), none] [] _ _
  refine xx (xs_iconst dm_Ro_holdsAt_0) ?_
  refine xx (xs_istore_n dm_Ro_holdsAt_1 (by decide)) ?_
  show x_X _ 2 [some (.inr (some a)), some (.inl p), some (.inr (some b)), some (.inl 0)] [] _ _
  have := ro_holdsAt_l hr1 hr2 hv9 hp0 hp1 (v.length + 1) 0 0 (by omega) (by omega) rfl
  simpa using this
set_option maxHeartbeats 4000000 in
set_option maxRecDepth 100000 in
theorem ro_same {h : xH} {a b : Nat} {l v : List Int} (hr1 : rwA h a l) (hr2 : rwA h b v) (hv9 : ∀ x ∈ v, x ≠ -1) : x_Mx mm_Ro_same [.inr (some a), .inr (some b)] h (fun r hf => r = some (.inl (if l = v then 1 else 0)) ∧ hf = h) := by
  refine xmx rfl (nl rfl) ?_
  have hr1' := hr1
  have hr2' := hr2
  have l1 := rwA_len hr1
  have l2 := rwA_len hr2
  obtain ⟨ra1, ri1, s1, f1, A1, rs1, rc1, rd1, rl1, rf1, rg1⟩ := hr1
  obtain ⟨ra2, ri2, s2, f2, A2, rs2, rc2, rd2, rl2, rf2, rg2⟩ := hr2
  show x_X _ 0 [some (.inr (some a)), some (.inr (some b))] [] _ _
  refine xx (xs_aload_n dm_Ro_same_0 rfl) ?_
  refine xx (xs_getf dm_Ro_same_1 lf_Ro_19 rc1 rfl) ?_
  refine xx (xs_aload_n dm_Ro_same_4 rfl) ?_
  refine xx (xs_getf dm_Ro_same_5 lf_Ro_19 rc2 rfl) ?_
  refine xx_icmp_ne (tgt := 24) dm_Ro_same_8 rfl (by unfold ir; omega) (by unfold ir; omega) (fun hc => ?_) (fun hc => ?_)
  · change x_X _ 24 _ _ _ _
    refine xx (xs_iconst dm_Ro_same_24) ?_
    exact ⟨_, _, xb_z dm_Ro_same_25 rfl (by omega), ⟨by rw [if_neg (fun e => hc (by rw [e]))], rfl⟩⟩
  · change x_X _ 11 _ _ _ _
    refine xx (xs_aload_n dm_Ro_same_11 rfl) ?_
    refine xx (xs_iconst dm_Ro_same_12) ?_
    refine xx (xs_aload_n dm_Ro_same_13 rfl) ?_
    refine xcV (as := [.inl 0, .inr (some b)]) (rest := []) dm_Ro_same_14 lc_Ro_holdsAt lm_Ro_39 li_Ro_holdsAt (nr rfl rfl) rfl rfl rc1 rfl (nl rfl) (ro_holdsAt hr1' hr2' hv9 (by omega) (by omega)) ?_
    rintro _ h1 ⟨rfl, hh1⟩
    have hh1 := hh1.symm
    subst hh1
    show x_X _ 17 [some (.inr (some a)), some (.inr (some b))] [.inl (if v.isPrefixOf (l.drop (0 : Int).toNat) = true then 1 else 0)] _ _
    have hiff : (v.isPrefixOf (l.drop (0 : Int).toNat) = true) ↔ l = v := by
      rw [show (0 : Int).toNat = 0 from rfl, List.drop_zero, List.isPrefixOf_iff_prefix]
      constructor
      · intro hp; exact (hp.eq_of_length (by omega)).symm
      · intro e; rw [e]; exact List.prefix_refl v
    by_cases he : l = v
    · rw [if_pos (hiff.mpr he), if_pos he]
      refine xx (xs_if_eq_f (tgt := 24) dm_Ro_same_17 rfl (by unfold ir; omega) (by decide)) ?_
      refine xx (xs_iconst dm_Ro_same_20) ?_
      refine xx (xs_goto (tgt := 25) dm_Ro_same_21 rfl) ?_
      exact ⟨_, _, xb_z dm_Ro_same_25 rfl (by omega), ⟨rfl, rfl⟩⟩
    · rw [if_neg (fun e => he (hiff.mp e)), if_neg he]
      refine xx (xs_if_eq_t (tgt := 24) dm_Ro_same_17 rfl (by unfold ir; omega) (by decide)) ?_
      refine xx (xs_iconst dm_Ro_same_24) ?_
      exact ⟨_, _, xb_z dm_Ro_same_25 rfl (by omega), ⟨rfl, rfl⟩⟩
