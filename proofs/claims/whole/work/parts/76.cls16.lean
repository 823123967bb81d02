/-! hypotheses: all of another's -/
theorem hyF_k {h hf : xH} {a ra o ro C S : Nat} {q q' : List (Option Nat)} {hs os : List (List Int)} (hy : hyF h o ro q' os) (hf' : hyF h a ra q hs) (hg : gr (pH a ra) C S h hf) (n1 : ¬ o = a) (n2 : ¬ ro = ra) : hyF hf o ro q' os := by
  obtain ⟨h3, h4, h5, h6, h7⟩ := hy
  obtain ⟨c1, c2, -⟩ := hf'
  refine ⟨hg.2 o _ (fun e => ?_) h3, hg.2 ro _ (fun e => ?_) h4, h5, h6, fun i l hl => ?_⟩
  · rcases e with e | e
    · exact n1 e
    · rw [e, c2] at h3; simp at h3
  · rcases e with e | e
    · rw [e, c1] at h4; simp at h4
    · exact n2 e
  · obtain ⟨b, b1, b2⟩ := h7 i l hl
    exact ⟨b, b1, rwA_h b2 hg c1 c2⟩
noncomputable def adC (bl : List Int) (x os : List (List Int)) : List (List Int) := os.foldl (fun x l => if l = bl then x else insC l x) x
theorem adC_nn {bl : List Int} : ∀ {os x : List (List Int)}, (∀ y ∈ x, nn1 y) → (∀ y ∈ os, nn1 y) → ∀ y ∈ adC bl x os, nn1 y := by
  intro os
  induction os with
  | nil => intro x h _; exact h
  | cons l os ih =>
    intro x h h2
    refine ih (x := if l = bl then x else insC l x) ?_ (fun y hy => h2 y (List.mem_cons_of_mem _ hy))
    split
    · exact h
    · exact insC_nn h (h2 l List.mem_cons_self)
noncomputable def hfc (x os : List (List Int)) : List (List Int) := os.foldl (fun x l => insC l x) x
set_option maxHeartbeats 4000000 in
set_option maxRecDepth 100000 in
theorem hy_addAll_l {h0 : xH} {a ra o ro : Nat} {q' : List (Option Nat)} {os : List (List Int)}  (n1 : ¬ o = a) (n2 : ¬ ro = ra) (hno : ∀ y ∈ os, nn1 y)  : ∀ (N k : Nat) (kk : Int) (h : xH) (q : List (Option Nat)) (hs : List (List Int)), os.length - k < N → k ≤ os.length → kk = k → hyF h a ra q hs → hyF h o ro q' os → (∀ y ∈ hs, nn1 y) → gr (pH a ra) 0 0 h0 h → x_X mm_Hy_addAll 2 [some (.inr (some a)), some (.inr (some o)), some (.inl kk)] [] h (fun r hf => r = none ∧ (∃ q2, hyF hf a ra q2 (hfc hs (os.drop k))) ∧ gr (pH a ra) 0 0 h0 hf) := by
  intro N
  induction N with
  | zero => intro k kk h q hs hN; omega
  | succ N ih =>
    intro k kk h q hs hN hk hkk hy ho hn hg
    have hy' := hy
    have ho' := ho
    obtain ⟨c1, c2, y5, y6, y7⟩ := hy
    obtain ⟨d1, d2, z5, z6, z7⟩ := ho
    by_cases hkn : k = os.length
    · refine xx (xs_iload_n dm_Hy_addAll_2 rfl) ?_
      refine xx (xs_aload_n dm_Hy_addAll_3 rfl) ?_
      refine xx (xs_getf dm_Hy_addAll_4 lf_Hy_17 d1 rfl) ?_
      refine xx (xs_icmp_ge_t (tgt := 26) dm_Hy_addAll_7 rfl (by unfold ir; omega) (by unfold ir; omega) (by omega)) ?_
      exact ⟨_, _, xb_v dm_Hy_addAll_26 rfl, rfl, ⟨q, by rw [hkn, List.drop_length]; exact hy'⟩, hg⟩
    · obtain ⟨l, hl⟩ : ∃ l, os[k]? = some l := ⟨_, List.getElem?_eq_getElem (by omega)⟩
      have hdl : os.drop k = l :: os.drop (k + 1) := by
        rw [List.drop_eq_getElem_cons (by omega)]
        congr 1
        exact (List.getElem?_eq_some_iff.mp hl).2
      obtain ⟨b, b1, b2⟩ := z7 k l hl
      have b3 := b2
      obtain ⟨ra9, ri9, s9, f9, A9, rs9, rc9, -⟩ := b2
      have ka : kk.toNat = k := by omega
      have hnl := hno l (List.mem_of_getElem? hl)
      refine xx (xs_iload_n dm_Hy_addAll_2 rfl) ?_
      refine xx (xs_aload_n dm_Hy_addAll_3 rfl) ?_
      refine xx (xs_getf dm_Hy_addAll_4 lf_Hy_17 d1 rfl) ?_
      refine xx (xs_icmp_ge_f (tgt := 26) dm_Hy_addAll_7 rfl (by unfold ir; omega) (by unfold ir; omega) (by omega)) ?_
      refine xx (xs_aload_n dm_Hy_addAll_10 rfl) ?_
      refine xx (xs_aload_n dm_Hy_addAll_11 rfl) ?_
      refine xx (xs_getf dm_Hy_addAll_12 lf_Hy_11 d1 rfl) ?_
      refine xx (xs_iload_n dm_Hy_addAll_15 rfl) ?_
      refine xx (xs_aald (x := (some b)) dm_Hy_addAll_16 (by decide) d2 (by omega) (by rw [ka]; exact b1) (by omega)) ?_
      refine xcV (as := [.inr (some b)]) (rest := []) dm_Hy_addAll_17 lc_Hy_add lm_Hy_28 li_Hy_add (nr rfl rfl) rfl rfl c1 rfl (nl rfl) (hy_add hy' b3 hn hnl) ?_
      rintro _ h2 ⟨rfl, ⟨q2, hy2⟩, g2⟩
      show x_X _ 20 [some (.inr (some a)), some (.inr (some o)), some (.inl kk)] [] _ _
      refine xx (xs_iinc dm_Hy_addAll_20 rfl (by decide)) ?_
      show x_X _ 23 [some (.inr (some a)), some (.inr (some o)), some (.inl (kk + 1))] [] _ _
      refine xx (xs_goto (tgt := 2) dm_Hy_addAll_23 rfl) ?_
      refine xxq (ih (k + 1) _ h2 q2 (insC l hs) (by omega) (by omega) (by omega) hy2 (hyF_k ho' hy' g2 n1 n2) (insC_nn hn hnl) (gr_tr hg g2 (fun _ _ e => e) (Nat.le_refl _) (Nat.le_refl _))) ?_
      rintro r hf ⟨u1, u2, u3⟩
      exact ⟨u1, by rw [hdl]; exact u2, u3⟩
set_option maxHeartbeats 4000000 in
set_option maxRecDepth 100000 in
theorem hy_addAll {h : xH} {a ra o ro : Nat} {q q' : List (Option Nat)} {hs os : List (List Int)} (hy : hyF h a ra q hs) (ho : hyF h o ro q' os) (n1 : ¬ o = a) (n2 : ¬ ro = ra) (hn : ∀ y ∈ hs, nn1 y) (hno : ∀ y ∈ os, nn1 y) : x_Mx mm_Hy_addAll [.inr (some a), .inr (some o)] h (fun r hf => r = none ∧ (∃ q2, hyF hf a ra q2 (hfc hs os)) ∧ gr (pH a ra) 0 0 h hf) := by
  refine xmx rfl (nl rfl) ?_
  show x_X _ 0 [some (.inr (some a)), some (.inr (some o)), none] [] _ _
  refine xx (xs_iconst dm_Hy_addAll_0) ?_
  refine xx (xs_istore_n dm_Hy_addAll_1 (by decide)) ?_
  show x_X _ 2 [some (.inr (some a)), some (.inr (some o)), some (.inl 0)] [] _ _
  have := hy_addAll_l n1 n2 hno (os.length + 1) 0 0 h q hs (by omega) (by omega) rfl hy ho hn (gr_rf _ _)
  simpa using this
set_option maxHeartbeats 4000000 in
set_option maxRecDepth 100000 in
theorem hy_addAllBut_l {h0 : xH} {a ra o ro : Nat} {q' : List (Option Nat)} {os : List (List Int)} {e : Nat} {bl : List Int} (n1 : ¬ o = a) (n2 : ¬ ro = ra) (hno : ∀ y ∈ os, nn1 y) (hnb : nn1 bl) : ∀ (N k : Nat) (kk : Int) (h : xH) (q : List (Option Nat)) (hs : List (List Int)), os.length - k < N → k ≤ os.length → kk = k → hyF h a ra q hs → hyF h o ro q' os → (∀ y ∈ hs, nn1 y) → rwA h e bl → gr (pH a ra) 0 0 h0 h → x_X mm_Hy_addAllBut 2 [some (.inr (some a)), some (.inr (some o)), some (.inr (some e)), some (.inl kk)] [] h (fun r hf => r = none ∧ (∃ q2, hyF hf a ra q2 (adC bl hs (os.drop k))) ∧ gr (pH a ra) 0 0 h0 hf) := by
  intro N
  induction N with
  | zero => intro k kk h q hs hN; omega
  | succ N ih =>
    intro k kk h q hs hN hk hkk hy ho hn hrb hg
    have hy' := hy
    have ho' := ho
    obtain ⟨c1, c2, y5, y6, y7⟩ := hy
    obtain ⟨d1, d2, z5, z6, z7⟩ := ho
    by_cases hkn : k = os.length
    · refine xx (xs_iload_n dm_Hy_addAllBut_2 rfl) ?_
      refine xx (xs_aload_n dm_Hy_addAllBut_3 rfl) ?_
      refine xx (xs_getf dm_Hy_addAllBut_4 lf_Hy_17 d1 rfl) ?_
      refine xx (xs_icmp_ge_t (tgt := 39) dm_Hy_addAllBut_7 rfl (by unfold ir; omega) (by unfold ir; omega) (by omega)) ?_
      exact ⟨_, _, xb_v dm_Hy_addAllBut_39 rfl, rfl, ⟨q, by rw [hkn, List.drop_length]; exact hy'⟩, hg⟩
    · obtain ⟨l, hl⟩ : ∃ l, os[k]? = some l := ⟨_, List.getElem?_eq_getElem (by omega)⟩
      have hdl : os.drop k = l :: os.drop (k + 1) := by
        rw [List.drop_eq_getElem_cons (by omega)]
        congr 1
        exact (List.getElem?_eq_some_iff.mp hl).2
      obtain ⟨b, b1, b2⟩ := z7 k l hl
      have b3 := b2
      obtain ⟨ra9, ri9, s9, f9, A9, rs9, rc9, -⟩ := b2
      have ka : kk.toNat = k := by omega
      have hnl := hno l (List.mem_of_getElem? hl)
      refine xx (xs_iload_n dm_Hy_addAllBut_2 rfl) ?_
      refine xx (xs_aload_n dm_Hy_addAllBut_3 rfl) ?_
      refine xx (xs_getf dm_Hy_addAllBut_4 lf_Hy_17 d1 rfl) ?_
      refine xx (xs_icmp_ge_f (tgt := 39) dm_Hy_addAllBut_7 rfl (by unfold ir; omega) (by unfold ir; omega) (by omega)) ?_
      refine xx (xs_aload_n dm_Hy_addAllBut_10 rfl) ?_
      refine xx (xs_getf dm_Hy_addAllBut_11 lf_Hy_11 d1 rfl) ?_
      refine xx (xs_iload_n dm_Hy_addAllBut_14 rfl) ?_
      refine xx (xs_aald (x := (some b)) dm_Hy_addAllBut_15 (by decide) d2 (by omega) (by rw [ka]; exact b1) (by omega)) ?_
      refine xx (xs_aload_n dm_Hy_addAllBut_16 rfl) ?_
      refine xcV (as := [.inr (some e)]) (rest := []) dm_Hy_addAllBut_17 lc_Ro_same lm_Hy_25 li_Ro_same (nr rfl rfl) rfl rfl rc9 rfl (nl rfl) (ro_same b3 hrb (nn_ne hnb)) ?_
      rintro _ hx9 ⟨rfl, hhx9⟩
      have hhx9 := hhx9.symm
      subst hhx9
      show x_X _ 20 [some (.inr (some a)), some (.inr (some o)), some (.inr (some e)), some (.inl kk)] [.inl (if l = bl then 1 else 0)] _ _
      by_cases hlb : l = bl
      · rw [if_pos hlb]
        refine xx (xs_if_ne_t (tgt := 33) dm_Hy_addAllBut_20 rfl (by unfold ir; omega) (by decide)) ?_
        refine xx (xs_iinc dm_Hy_addAllBut_33 rfl (by decide)) ?_
        show x_X _ 36 [some (.inr (some a)), some (.inr (some o)), some (.inr (some e)), some (.inl (kk + 1))] [] _ _
        refine xx (xs_goto (tgt := 2) dm_Hy_addAllBut_36 rfl) ?_
        refine xxq (ih (k + 1) _ h q hs (by omega) (by omega) (by omega) hy' ho' hn hrb hg) ?_
        rintro r hf ⟨u1, u2, u3⟩
        exact ⟨u1, by rw [hdl, adC, List.foldl_cons, if_pos hlb]; exact u2, u3⟩
      · rw [if_neg hlb]
        refine xx (xs_if_ne_f (tgt := 33) dm_Hy_addAllBut_20 rfl (by unfold ir; omega) (by decide)) ?_
        refine xx (xs_aload_n dm_Hy_addAllBut_23 rfl) ?_
        refine xx (xs_aload_n dm_Hy_addAllBut_24 rfl) ?_
        refine xx (xs_getf dm_Hy_addAllBut_25 lf_Hy_11 d1 rfl) ?_
        refine xx (xs_iload_n dm_Hy_addAllBut_28 rfl) ?_
        refine xx (xs_aald (x := (some b)) dm_Hy_addAllBut_29 (by decide) d2 (by omega) (by rw [ka]; exact b1) (by omega)) ?_
        refine xcV (as := [.inr (some b)]) (rest := []) dm_Hy_addAllBut_30 lc_Hy_add lm_Hy_28 li_Hy_add (nr rfl rfl) rfl rfl c1 rfl (nl rfl) (hy_add hy' b3 hn hnl) ?_
        rintro _ h2 ⟨rfl, ⟨q2, hy2⟩, g2⟩
        show x_X _ 33 [some (.inr (some a)), some (.inr (some o)), some (.inr (some e)), some (.inl kk)] [] _ _
        refine xx (xs_iinc dm_Hy_addAllBut_33 rfl (by decide)) ?_
        show x_X _ 36 [some (.inr (some a)), some (.inr (some o)), some (.inr (some e)), some (.inl (kk + 1))] [] _ _
        refine xx (xs_goto (tgt := 2) dm_Hy_addAllBut_36 rfl) ?_
        refine xxq (ih (k + 1) _ h2 q2 (insC l hs) (by omega) (by omega) (by omega) hy2 (hyF_k ho' hy' g2 n1 n2) (insC_nn hn hnl) (rwA_h hrb g2 c1 c2) (gr_tr hg g2 (fun _ _ e => e) (Nat.le_refl _) (Nat.le_refl _))) ?_
        rintro r hf ⟨u1, u2, u3⟩
        exact ⟨u1, by rw [hdl]; rw [adC, List.foldl_cons, if_neg hlb]; exact u2, u3⟩
set_option maxHeartbeats 4000000 in
set_option maxRecDepth 100000 in
theorem hy_addAllBut {h : xH} {a ra o ro e : Nat} {q q' : List (Option Nat)} {hs os : List (List Int)} {bl : List Int} (hy : hyF h a ra q hs) (ho : hyF h o ro q' os) (hrb : rwA h e bl) (hnb : nn1 bl) (n1 : ¬ o = a) (n2 : ¬ ro = ra) (hn : ∀ y ∈ hs, nn1 y) (hno : ∀ y ∈ os, nn1 y) : x_Mx mm_Hy_addAllBut [.inr (some a), .inr (some o), .inr (some e)] h (fun r hf => r = none ∧ (∃ q2, hyF hf a ra q2 (adC bl hs os)) ∧ gr (pH a ra) 0 0 h hf) := by
  refine xmx rfl (nl rfl) ?_
  show x_X _ 0 [some (.inr (some a)), some (.inr (some o)), some (.inr (some e)), none] [] _ _
  refine xx (xs_iconst dm_Hy_addAllBut_0) ?_
  refine xx (xs_istore_n dm_Hy_addAllBut_1 (by decide)) ?_
  show x_X _ 2 [some (.inr (some a)), some (.inr (some o)), some (.inr (some e)), some (.inl 0)] [] _ _
  have := hy_addAllBut_l n1 n2 hno hnb (os.length + 1) 0 0 h q hs (by omega) (by omega) rfl hy ho hn hrb (gr_rf _ _)
  simpa using this
