theorem rwA_c {h : xH} {a : Nat} {l : List Int} (hr : rwA h a l) : ∃ fs, h.1[a]? = some (.inr (.inr (4, fs))) := by
  obtain ⟨r1, r2, s, f, A, r3, r4, -⟩ := hr
  exact ⟨_, r4⟩
theorem hyA_c {h : xH} {a : Nat} {l : List (List Int)} (hr : hyA h a l) : ∃ fs, h.1[a]? = some (.inr (.inr (2, fs))) := by
  obtain ⟨r1, s, f, A, r3, -⟩ := hr
  exact ⟨_, r3⟩
/-! the machine: what its helpers answer -/
abbrev pA : Nat → Prop := fun i => i < 14
def mrow (C S : Nat) (h : xH) (M : mS) (l : List Int) (r : Option xV) (hf : xH) : Prop := ∃ b, r = some (.inr (some b)) ∧ cM hf M ∧ rwA hf b l ∧ gr pS C S h hf
def clP (C S : Nat) (h : xH) (o : Int × mS) (r : Option xV) (hf : xH) : Prop := r = some (.inl o.1) ∧ cM hf o.2 ∧ gr pA C S h hf
section MR
variable {P : Nat → Prop} {C S : Nat} {h hf : xH} {M : mS} {l : List Int} {r : Option xV}
theorem gr_A (hg : gr P C S h hf) (hP : ∀ i, P i → 1 ≤ i ∧ i ≤ 5) : gr pA C S h hf := gr_w hg (fun i _ e => by have := hP i e; show i < 14; omega) (Nat.le_refl _) (Nat.le_refl _)
theorem gr_S (hg : gr P C S h hf) (hP : ∀ i, P i → 1 ≤ i ∧ i ≤ 5) : gr pS C S h hf := gr_w hg (fun i _ e => hP i e) (Nat.le_refl _) (Nat.le_refl _)
theorem gr_SA (hg : gr pS C S h hf) : gr pA C S h hf := gr_A hg (fun i e => e)
theorem rwA_S {a : Nat} (hr : rwA h a l) (hg : gr pS C S h hf) : rwA hf a l := rwA_lo hr hg (fun i hi e => by have := e.2; omega)
theorem hyA_S {a : Nat} {hs : List (List Int)} (hr : hyA h a hs) (hg : gr pS C S h hf) : hyA hf a hs := hyA_gr hr hg (fun i hi e => by have := e.2; omega)
theorem itA_S {a : Nat} {x : oB} (hr : itA h a x) (hg : gr pS C S h hf) : itA hf a x := itA_gr hr hg (fun i hi e => by have := e.2; omega)
theorem ce_S {a : Nat} {c : xC} (hr : h.1[a]? = some c) (hg : gr pS C S h hf) (ha : 14 ≤ a) : hf.1[a]? = some c := hg.2 a c (fun e => by have := e.2; omega) hr
theorem rwA_A {a : Nat} (hr : rwA h a l) (hg : gr pA C S h hf) : rwA hf a l := rwA_lo hr hg (fun i hi e => by have : i < 14 := e; omega)
theorem hyA_A {a : Nat} {hs : List (List Int)} (hr : hyA h a hs) (hg : gr pA C S h hf) : hyA hf a hs := hyA_gr hr hg (fun i hi e => by have : i < 14 := e; omega)
theorem itA_A {a : Nat} {x : oB} (hr : itA h a x) (hg : gr pA C S h hf) : itA hf a x := itA_gr hr hg (fun i hi e => by have : i < 14 := e; omega)
theorem ce_A {a : Nat} {c : xC} (hr : h.1[a]? = some c) (hg : gr pA C S h hf) (ha : 14 ≤ a) : hf.1[a]? = some c := hg.2 a c (fun e => by have : a < 14 := e; omega) hr
theorem mr_p (hm : cM h M) (hn : nrow pP C S h l r hf) (hp : scP hf []) : mrow C S h M l r hf := by
  obtain ⟨b, e, g, w⟩ := hn
  obtain ⟨-, ⟨q, B, p2⟩, p3⟩ := hm.2.1
  exact ⟨b, e, cM_gr hm g ⟨hp, ⟨q, B, scD_p p2 g⟩, scB_p p3 g⟩ (fun i e => by rcases e with e | e <;> omega), w, gr_S g (fun i e => by rcases e with e | e <;> omega)⟩
theorem mr_d (hm : cM h M) (hn : nrow pD C S h l r hf) (hp : scP hf []) (hx : scX hf) : mrow C S h M l r hf := by
  obtain ⟨b, e, g, w⟩ := hn
  obtain ⟨-, -, p3⟩ := hm.2.1
  exact ⟨b, e, cM_gr hm g ⟨hp, hx, scB_gr p3 g (fun e => by have := e.2; omega) (fun i hi e => by have := e.2; omega)⟩ (fun i e => ⟨e.1, by have := e.2; omega⟩), w, gr_S g (fun i e => ⟨e.1, by have := e.2; omega⟩)⟩
theorem mr_e (hm : cM h M) (hn : nrow pE C S h l r hf) (hp : scP hf []) (hb : scB hf []) : mrow C S h M l r hf := by
  obtain ⟨b, e, g, w⟩ := hn
  obtain ⟨-, ⟨q, B, p2⟩, -⟩ := hm.2.1
  exact ⟨b, e, cM_gr hm g ⟨hp, ⟨q, B, scD_gr p2 g (fun e => by rcases e with e | e | e <;> omega) (fun e => by rcases e with e | e | e <;> omega)⟩, hb⟩ (fun i e => by rcases e with e | e | e <;> omega), w, gr_S g (fun i e => by rcases e with e | e | e <;> omega)⟩
theorem mr_f (hm : cM h M) (hn : nrow (fun _ => False) C S h l r hf) : mrow C S h M l r hf := by
  obtain ⟨b, e, g, w⟩ := hn
  exact ⟨b, e, cM_new hm g, w, gr_S g (fun i e => e.elim)⟩
end MR
section SK
variable {h : xH} {M : mS} {a b c : Nat} {l v u : List Int} {x y : Int}
theorem sk_simple (hm : cM h M) (hx : ir x) : x_Mx mm_Sc_simpleType [.inr (some 1), .inl x] h (mrow 2 84 h M [x]) := x_Mq (sc_simpleType hm.2.1.1 hm.2.2.2.2.2.2.2.2 hx) (fun _ _ hh => mr_p hm hh.1 hh.2)
theorem sk_fun (hm : cM h M) (ha : rwA h a l) (hb : rwA h b v) : x_Mx mm_Sc_functionType [.inr (some 1), .inr (some a), .inr (some b)] h (mrow 2 84 h M ((0 :: (l ++ v)).take 81)) := x_Mq (sc_functionType hm.2.1.1 ha hb) (fun _ _ hh => mr_p hm hh.1 hh.2)
theorem sk_leaf (hm : cM h M) (hx : ir x) (hy : ir y) (ha : rwA h a l) : x_Mx mm_Sc_leaf [.inr (some 1), .inl x, .inl y, .inr (some a)] h (mrow 2 84 h M ((x :: y :: l).take 81)) := x_Mq (sc_leaf hm.2.1.1 hx hy ha) (fun _ _ hh => mr_p hm hh.1 hh.2)
theorem sk_app (hm : cM h M) (ha : rwA h a l) (hb : rwA h b v) : x_Mx mm_Sc_application [.inr (some 1), .inr (some a), .inr (some b)] h (mrow 2 84 h M ((12 :: (l ++ v)).take 81)) := x_Mq (sc_application hm.2.1.1 ha hb) (fun _ _ hh => mr_p hm hh.1 hh.2)
theorem sk_eq (hm : cM h M) (ha : rwA h a l) (hb : rwA h b v) (hc : rwA h c u) : x_Mx mm_Sc_equation [.inr (some 1), .inr (some a), .inr (some b), .inr (some c)] h (mrow 2 84 h M ((eqn l v u).take 81)) := x_Mq (sc_equation hm.2.1.1 ha hb hc) (fun _ _ hh => mr_p hm hh.1 hh.2)
theorem sk_rpl (hm : cM h M) (ha : rwA h a l) (hb : rwA h b v) (hc : rwA h c u) (hv : nn1 v) : x_Mx mm_Sc_replaceVariable [.inr (some 1), .inr (some a), .inr (some b), .inr (some c)] h (mrow 2 84 h M ((rplC v u l 0).take 81)) := x_Mq (sc_replaceVariable hm.2.1.1 ha hb hc (nn_ne hv)) (fun _ _ hh => mr_p hm hh.1 hh.2)
theorem sk_rt {G : List (List Int)} {t : List Int} (hm : cM h M) (ha : rwA h a l) (hc : rwA h c u) (hx : 0 ≤ x ∧ x ≤ 3) (hl : isTm G l t) : x_Mx mm_Sc_replaceTypeVariable [.inr (some 1), .inr (some a), .inl x, .inr (some c)] h (mrow 2 84 h M ((rtC x u l 0).take 81)) := by
  rw [show rtC x u l 0 = rtC x u l (-1) from rtC_hd (by have := isTm_hdT hl []; rw [List.append_nil] at this; exact this) _ _]
  exact x_Mq (sc_replaceType hm.2.1.1 ha hc hx) (fun _ _ hh => mr_p hm hh.1 hh.2)
theorem sk_out (hm : cM h M) (ha : rwA h a l) (hc : rwA h c u) (hl : l.length ≤ 40) : x_Mx mm_Sc_replaceOutermost [.inr (some 1), .inr (some a), .inr (some c)] h (mrow 2 84 h M ((betC u l ([], 1)).take 81)) := x_Mq (sc_outer hm.2.1.1 hm.2.1.2.1 ha hc hl) (fun _ _ hh => mr_d hm hh.1 hh.2.1 hh.2.2)
theorem sk_abs {n : Int} {t : List Int} (hm : cM h M) (ha : rwA h a l) (hc : rwA h c (10 :: n :: t)) (ht : isTy t) (hn : 0 ≤ n ∧ n ≤ 7) (hl : l.length ≤ 40) : x_Mx mm_Sc_abstraction [.inr (some 1), .inr (some c), .inr (some a)] h (mrow 3 87 h M ((13 :: (t ++ absC (10 :: n :: t) l ([], 1) 0)).take 81)) := x_Mq (sc_abstraction hm.2.1.1 hm.2.1.2.1 ha hc ht hn hl) (fun _ _ hh => mr_d hm hh.1 hh.2.1 hh.2.2)
theorem sk_ty (hm : cM h M) (ha : rwA h a l) (hl : l.length ≤ 40) (ht : isTm [] l v) : x_Mx mm_Sc_typeOf [.inr (some 1), .inr (some a)] h (mrow 90 400 h M v) := x_Mq (sc_typeOf hm.2.1.1 hm.2.1.2.2 ha hl ht) (fun r hf hh => by have k := mr_e hm hh.1 hh.2.1 hh.2.2; rw [ty_take ht hl] at k; exact k)
end SK
/-! the items of the stack by their place -/
def itQ (h : xH) (M : mS) (c : Prop) (i : Nat) (r : Option xV) : Prop := (c ∧ ∃ a x, M.1[i]? = some x ∧ r = some (.inr (some a)) ∧ itA h a x) ∨ (¬ c ∧ r = some (.inr none))
def rwQ (h : xH) (M : mS) (c : Prop) (i : Nat) (r : Option xV) : Prop := (c ∧ ∃ a x, M.1[i]? = some x ∧ r = some (.inr (some a)) ∧ rwA h a x.2.1) ∨ (¬ c ∧ r = some (.inr none))
theorem ma_itemB {h : xH} {M : mS} {i : Nat} {p k : Int} (hg : gM M) (hm : cM h M) (hp : p = i) (hi : i ≤ 12) (hk : 0 ≤ k ∧ k ≤ 2) : x_Mx mm_Ma_itemBelow [.inr (some 0), .inl p, .inl k] h (fun r hf => hf = h ∧ itQ h M (kd M i = k) i r) := by
  refine x_Mq (ma_itemBelow hg hm (by unfold ir; omega) (by unfold ir; omega)) (fun r hf hh => ⟨hh.1, ?_⟩)
  have h2 := hh.2
  rw [show p.toNat = i by omega] at h2
  by_cases hc : kd M i = k
  · rw [if_pos ⟨by omega, hc⟩] at h2
    obtain ⟨x, hx, -⟩ := kd_some (M := M) (i := i) (by omega)
    rw [hx] at h2
    obtain ⟨a, e, ha⟩ := h2
    exact Or.inl ⟨hc, a, x, hx, e, ha⟩
  · rw [if_neg (fun e => hc e.2)] at h2
    exact Or.inr ⟨hc, h2⟩
set_option maxHeartbeats 4000000 in
set_option maxRecDepth 100000 in
theorem ma_rowB {h : xH} {M : mS} {i : Nat} {p k : Int} (hg : gM M) (hm : cM h M) (hp : p = i) (hi : i ≤ 12) (hk : 0 ≤ k ∧ k ≤ 2) : x_Mx mm_Ma_rowBelow [.inr (some 0), .inl p, .inl k] h (fun r hf => hf = h ∧ rwQ h M (kd M i = k) i r) := by
  refine xmx rfl (nl rfl) ?_
  have m1 := hm.1
  show x_X _ 0 [some (.inr (some 0)), some (.inl p), some (.inl k), none] [] _ _
  refine xx (xs_aload_n dm_Ma_rowBelow_0 rfl) ?_
  refine xx (xs_iload_n dm_Ma_rowBelow_1 rfl) ?_
  refine xx (xs_iload_n dm_Ma_rowBelow_2 rfl) ?_
  refine xcV (as := [.inl p, .inl k]) (rest := []) dm_Ma_rowBelow_3 lc_Ma_itemBelow lm_Ma_118 li_Ma_itemBelow (nr rfl rfl) rfl rfl m1 rfl (nl rfl) (ma_itemB hg hm hp hi hk) ?_
  rintro r9 hx9 ⟨hhx9, hR⟩
  have hhx9 := hhx9.symm
  subst hhx9
  rcases hR with ⟨k1, b, x, hx, e9, hb⟩ | ⟨k1, e9⟩
  · subst e9
    have hb' := hb
    obtain ⟨-, m, y, bc, wm, -⟩ := hb
    show x_X _ 6 [some (.inr (some 0)), some (.inl p), some (.inl k), none] [.inr (some b)] _ _
    refine xx (xs_astore_n dm_Ma_rowBelow_6 (by decide)) ?_
    show x_X _ 7 [some (.inr (some 0)), some (.inl p), some (.inl k), some (.inr (some b))] [] _ _
    refine xx (xs_aload_n dm_Ma_rowBelow_7 rfl) ?_
    refine xx (xs_ifnonnull_t (tgt := 15) dm_Ma_rowBelow_8 rfl) ?_
    refine xx (xs_aload_n dm_Ma_rowBelow_15 rfl) ?_
    refine xx (xs_getf dm_Ma_rowBelow_16 lf_Ma_132 bc rfl) ?_
    exact ⟨_, _, xb_a dm_Ma_rowBelow_19 rfl (Or.inl ⟨_, rfl⟩), rfl, Or.inl ⟨k1, m, x, hx, rfl, wm⟩⟩
  · subst e9
    show x_X _ 6 [some (.inr (some 0)), some (.inl p), some (.inl k), none] [.inr none] _ _
    refine xx (xs_astore_n dm_Ma_rowBelow_6 (by decide)) ?_
    show x_X _ 7 [some (.inr (some 0)), some (.inl p), some (.inl k), some (.inr none)] [] _ _
    refine xx (xs_aload_n dm_Ma_rowBelow_7 rfl) ?_
    refine xx (xs_ifnonnull_f dm_Ma_rowBelow_8) ?_
    refine xx (xs_null dm_Ma_rowBelow_11) ?_
    refine xx (xs_goto (tgt := 19) dm_Ma_rowBelow_12 rfl) ?_
    exact ⟨_, _, xb_a dm_Ma_rowBelow_19 rfl (Or.inl ⟨_, rfl⟩), rfl, Or.inr ⟨k1, rfl⟩⟩
set_option maxHeartbeats 4000000 in
set_option maxRecDepth 100000 in
theorem ma_varB {h : xH} {M : mS} {i : Nat} {p : Int} (hg : gM M) (hm : cM h M) (hp : p = i) (hi : i ≤ 12) : x_Mx mm_Ma_variableBelow [.inr (some 0), .inl p] h (fun r hf => hf = h ∧ rwQ h M (vb M i) i r) := by
  refine xmx rfl (nl rfl) ?_
  have m1 := hm.1
  show x_X _ 0 [some (.inr (some 0)), some (.inl p), none] [] _ _
  refine xx (xs_aload_n dm_Ma_variableBelow_0 rfl) ?_
  refine xx (xs_iload_n dm_Ma_variableBelow_1 rfl) ?_
  refine xx (xs_iconst dm_Ma_variableBelow_2) ?_
  refine xcV (as := [.inl p, .inl 1]) (rest := []) dm_Ma_variableBelow_3 lc_Ma_rowBelow lm_Ma_65 li_Ma_rowBelow (nr rfl rfl) rfl rfl m1 rfl (nl rfl) (ma_rowB hg hm hp hi (by decide)) ?_
  rintro r9 hx9 ⟨hhx9, hR⟩
  have hhx9 := hhx9.symm
  subst hhx9
  rcases hR with ⟨k1, b, x, hx, e9, hb⟩ | ⟨k1, e9⟩
  · subst e9
    obtain ⟨k2, k3, -⟩ := kd_of hx
    obtain ⟨⟨ty, tt⟩, -⟩ := gO_1 (gM_top hg hx) (by rw [← k2]; exact k1)
    obtain ⟨s, rr, es, -⟩ := isTm_hd tt
    have is : ir s := by have := isTm_ir tt (by have := rwA_len hb; simp; omega); exact this s (by rw [es]; simp)
    obtain ⟨bf, bc⟩ := rwA_c hb
    show x_X _ 6 [some (.inr (some 0)), some (.inl p), none] [.inr (some b)] _ _
    refine xx (xs_astore_n dm_Ma_variableBelow_6 (by decide)) ?_
    show x_X _ 7 [some (.inr (some 0)), some (.inl p), some (.inr (some b))] [] _ _
    refine xx (xs_aload_n dm_Ma_variableBelow_7 rfl) ?_
    refine xx (xs_ifnull_f dm_Ma_variableBelow_8) ?_
    refine xx (xs_aload_n dm_Ma_variableBelow_11 rfl) ?_
    refine xx (xs_iconst dm_Ma_variableBelow_12) ?_
    refine xcV (as := [.inl 0]) (rest := []) dm_Ma_variableBelow_13 lc_Ro_at lm_Ma_211 li_Ro_at (nr rfl rfl) rfl rfl bc rfl (nl rfl) (ro_at hb (by unfold ir; omega)) ?_
    rintro _ hx9 ⟨rfl, hhx9⟩
    have hhx9 := hhx9.symm
    subst hhx9
    show x_X _ 16 [some (.inr (some 0)), some (.inl p), some (.inr (some b))] [.inl (atL x.2.1 0)] _ _
    rw [show atL x.2.1 0 = s by rw [es]; exact atL_0]
    show x_X _ 16 [some (.inr (some 0)), some (.inl p), some (.inr (some b))] [.inl s] _ _
    refine xx (xs_bipush dm_Ma_variableBelow_16 (by decide)) ?_
    refine xx_icmp_ne (tgt := 25) dm_Ma_variableBelow_18 rfl is (by unfold ir; omega) (fun hc => ?_) (fun hc => ?_)
    · change x_X _ 25 _ _ _ _
      refine xx (xs_null dm_Ma_variableBelow_25) ?_
      exact ⟨_, _, xb_a dm_Ma_variableBelow_26 rfl (Or.inl ⟨_, rfl⟩), rfl, Or.inr ⟨fun e => by obtain ⟨l, hl⟩ := e.2; rw [k3, es] at hl; simp at hl; exact hc hl.1, rfl⟩⟩
    · change x_X _ 21 _ _ _ _
      refine xx (xs_aload_n dm_Ma_variableBelow_21 rfl) ?_
      refine xx (xs_goto (tgt := 26) dm_Ma_variableBelow_22 rfl) ?_
      exact ⟨_, _, xb_a dm_Ma_variableBelow_26 rfl (Or.inl ⟨_, rfl⟩), rfl, Or.inl ⟨⟨k1, rr, by rw [k3, es, hc]⟩, b, x, hx, rfl, hb⟩⟩
  · subst e9
    show x_X _ 6 [some (.inr (some 0)), some (.inl p), none] [.inr none] _ _
    refine xx (xs_astore_n dm_Ma_variableBelow_6 (by decide)) ?_
    show x_X _ 7 [some (.inr (some 0)), some (.inl p), some (.inr none)] [] _ _
    refine xx (xs_aload_n dm_Ma_variableBelow_7 rfl) ?_
    refine xx (xs_ifnull_t (tgt := 25) dm_Ma_variableBelow_8 rfl) ?_
    refine xx (xs_null dm_Ma_variableBelow_25) ?_
    exact ⟨_, _, xb_a dm_Ma_variableBelow_26 rfl (Or.inl ⟨_, rfl⟩), rfl, Or.inr ⟨fun e => k1 e.1, rfl⟩⟩
set_option maxHeartbeats 4000000 in
set_option maxRecDepth 100000 in
theorem ma_keptFor {h : xH} {M : mS} {p : Int} (hm : cM h M) (hp : ir p) : x_Mx mm_Ma_keptFor [.inr (some 0), .inl p] h (fun r hf => hf = h ∧ itR h (if 0 ≤ p ∧ p < 6 then M.2.1 p.toNat else none) r) := by
  refine xmx rfl (nl rfl) ?_
  obtain ⟨m1, -, -, ⟨q, q1, q2, q3⟩, -⟩ := hm
  show x_X _ 0 [some (.inr (some 0)), some (.inl p)] [] _ _
  refine xx (xs_iload_n dm_Ma_keptFor_0 rfl) ?_
  refine xx_if_lt (tgt := 19) dm_Ma_keptFor_1 rfl hp (fun hc => ?_) (fun hc => ?_)
  · change x_X _ 19 _ _ _ _
    refine xx (xs_null dm_Ma_keptFor_19) ?_
    exact ⟨_, _, xb_a dm_Ma_keptFor_20 rfl (Or.inl ⟨_, rfl⟩), rfl, by rw [if_neg (by omega)]; exact rfl⟩
  · change x_X _ 4 _ _ _ _
    refine xx (xs_iload_n dm_Ma_keptFor_4 rfl) ?_
    refine xx (xs_bipush dm_Ma_keptFor_5 (by decide)) ?_
    refine xx_icmp_ge (tgt := 19) dm_Ma_keptFor_7 rfl hp (by unfold ir; omega) (fun hc2 => ?_) (fun hc2 => ?_)
    · change x_X _ 19 _ _ _ _
      refine xx (xs_null dm_Ma_keptFor_19) ?_
      exact ⟨_, _, xb_a dm_Ma_keptFor_20 rfl (Or.inl ⟨_, rfl⟩), rfl, by rw [if_neg (by omega)]; exact rfl⟩
    · change x_X _ 10 _ _ _ _
      rw [if_pos (by omega)]
      have q3 := q3 p.toNat (by omega)
      cases hD : M.2.1 p.toNat with
      | none =>
        have q4 := q3.1 hD
        refine xx (xs_aload_n dm_Ma_keptFor_10 rfl) ?_
        refine xx (xs_getf dm_Ma_keptFor_11 lf_Ma_33 m1 rfl) ?_
        refine xx (xs_iload_n dm_Ma_keptFor_14 rfl) ?_
        refine xx (xs_aald (x := none) dm_Ma_keptFor_15 (by decide) q1 (by omega) q4 (by omega)) ?_
        refine xx (xs_goto (tgt := 20) dm_Ma_keptFor_16 rfl) ?_
        exact ⟨_, _, xb_a dm_Ma_keptFor_20 rfl (Or.inl ⟨_, rfl⟩), rfl, rfl⟩
      | some x =>
        obtain ⟨b, q4, hb⟩ := q3.2 x hD
        refine xx (xs_aload_n dm_Ma_keptFor_10 rfl) ?_
        refine xx (xs_getf dm_Ma_keptFor_11 lf_Ma_33 m1 rfl) ?_
        refine xx (xs_iload_n dm_Ma_keptFor_14 rfl) ?_
        refine xx (xs_aald (x := (some b)) dm_Ma_keptFor_15 (by decide) q1 (by omega) q4 (by omega)) ?_
        refine xx (xs_goto (tgt := 20) dm_Ma_keptFor_16 rfl) ?_
        exact ⟨_, _, xb_a dm_Ma_keptFor_20 rfl (Or.inl ⟨_, rfl⟩), rfl, b, rfl, hb⟩
set_option maxHeartbeats 4000000 in
set_option maxRecDepth 100000 in
theorem ma_itemAt {h : xH} {M : mS} {p : Int} (hm : cM h M) (hp : ir p) : x_Mx mm_Ma_itemAt [.inr (some 0), .inl p] h (fun r hf => hf = h ∧ itR h (ob M p) r) := by
  refine xmx rfl (nl rfl) ?_
  have hp2 := hp
  unfold ir at hp2
  have m1 := hm.1
  have m3 := hm.2.2.1
  have m5 := hm.2.2.2.2.1
  have m6 := hm.2.2.2.2.2.1
  show x_X _ 0 [some (.inr (some 0)), some (.inl p)] [] _ _
  refine xx (xs_iload_n dm_Ma_itemAt_0 rfl) ?_
  refine xx (xs_sipush dm_Ma_itemAt_1 (by decide)) ?_
  refine xx_icmp_lt (tgt := 20) dm_Ma_itemAt_4 rfl hp (by unfold ir; omega) (fun hc => ?_) (fun hc => ?_)
  · change x_X _ 20 _ _ _ _
    refine xx (xs_iload_n dm_Ma_itemAt_20 rfl) ?_
    refine xx (xs_sipush dm_Ma_itemAt_21 (by decide)) ?_
    refine xx_icmp_lt (tgt := 40) dm_Ma_itemAt_24 rfl hp (by unfold ir; omega) (fun hc2 => ?_) (fun hc2 => ?_)
    · change x_X _ 40 _ _ _ _
      refine xx (xs_iload_n dm_Ma_itemAt_40 rfl) ?_
      refine xx (xs_bipush dm_Ma_itemAt_41 (by decide)) ?_
      refine xx_icmp_lt (tgt := 55) dm_Ma_itemAt_43 rfl hp (by unfold ir; omega) (fun hc3 => ?_) (fun hc3 => ?_)
      · change x_X _ 55 _ _ _ _
        refine xx (xs_aload_n dm_Ma_itemAt_55 rfl) ?_
        refine xx (xs_getf dm_Ma_itemAt_56 lf_Ma_21 m1 rfl) ?_
        refine xx (xs_iload_n dm_Ma_itemAt_59 rfl) ?_
        refine xcV (as := [.inl p]) (rest := []) dm_Ma_itemAt_60 lc_Sh_below lm_Ma_178 li_Sh_below (nr rfl rfl) rfl rfl (cL_c m3).choose_spec rfl (nl rfl) (sh_belowR m3 hp) ?_
        rintro r9 hx9 ⟨hhx9, hR⟩
        have hhx9 := hhx9.symm
        subst hhx9
        have hR : itR h (ob M p) r9 := by
          rw [show ob M p = (if 0 ≤ p then M.1[p.toNat]? else none) from by unfold ob; by_cases h0 : 0 ≤ p; rw [if_pos (by omega), if_pos h0]; rw [if_neg (by omega), if_neg (by omega), if_neg (by omega), if_neg (by omega), if_neg h0]]
          exact hR
        obtain ⟨v9, e9⟩ : ∃ v9, r9 = some (.inr v9) := by
          cases hO : ob M p with
          | none => rw [hO] at hR; exact ⟨none, hR⟩
          | some x => rw [hO] at hR; obtain ⟨b, e, -⟩ := hR; exact ⟨some b, e⟩
        subst e9
        show x_X _ 63 [some (.inr (some 0)), some (.inl p)] [.inr v9] _ _
        exact ⟨_, _, xb_a dm_Ma_itemAt_63 rfl (Or.inl ⟨_, rfl⟩), rfl, hR⟩
      · change x_X _ 46 _ _ _ _
        refine xx (xs_aload_n dm_Ma_itemAt_46 rfl) ?_
        refine xx (xs_iload_n dm_Ma_itemAt_47 rfl) ?_
        refine xx (xs_bipush dm_Ma_itemAt_48 (by decide)) ?_
        refine xx (xs_isub dm_Ma_itemAt_50) ?_
        refine xcV (as := [.inl (p - 100)]) (rest := []) dm_Ma_itemAt_51 lc_Ma_keptFor lm_Ma_186 li_Ma_keptFor (nr rfl rfl) rfl rfl m1 rfl (nl rfl) (ma_keptFor (p := p - 100) hm (by unfold ir; omega)) ?_
        rintro r9 hx9 ⟨hhx9, hR⟩
        have hhx9 := hhx9.symm
        subst hhx9
        have hR : itR h (ob M p) r9 := by
          rw [show ob M p = (if 0 ≤ p - 100 ∧ p - 100 < 6 then M.2.1 (p - 100).toNat else none) from by unfold ob; rw [if_neg (by omega)]; by_cases h6 : p < 106; rw [if_pos (by omega), if_pos (by omega), show (p - 100).toNat = p.toNat - 100 by omega]; rw [if_neg (by omega), if_neg (by omega), if_neg (by omega), if_neg (by omega)]]
          exact hR
        obtain ⟨v9, e9⟩ : ∃ v9, r9 = some (.inr v9) := by
          cases hO : ob M p with
          | none => rw [hO] at hR; exact ⟨none, hR⟩
          | some x => rw [hO] at hR; obtain ⟨b, e, -⟩ := hR; exact ⟨some b, e⟩
        subst e9
        show x_X _ 54 [some (.inr (some 0)), some (.inl p)] [.inr v9] _ _
        exact ⟨_, _, xb_a dm_Ma_itemAt_54 rfl (Or.inl ⟨_, rfl⟩), rfl, hR⟩
    · change x_X _ 27 _ _ _ _
      refine xx (xs_aload_n dm_Ma_itemAt_27 rfl) ?_
      refine xx (xs_getf dm_Ma_itemAt_28 lf_Ma_25 m1 rfl) ?_
      refine xx (xs_iload_n dm_Ma_itemAt_31 rfl) ?_
      refine xx (xs_sipush dm_Ma_itemAt_32 (by decide)) ?_
      refine xx (xs_isub dm_Ma_itemAt_35) ?_
      refine xcV (as := [.inl (p - 200)]) (rest := []) dm_Ma_itemAt_36 lc_Sh_get lm_Ma_262 li_Sh_get (nr rfl rfl) rfl rfl (cL_c m5).choose_spec rfl (nl rfl) (sh_getR (p := p - 200) m5 (by unfold ir; omega)) ?_
      rintro r9 hx9 ⟨hhx9, hR⟩
      have hhx9 := hhx9.symm
      subst hhx9
      have hR : itR h (ob M p) r9 := by
        rw [show ob M p = (if 0 ≤ p - 200 then M.2.2.1[(p - 200).toNat]? else none) from by unfold ob; rw [if_neg (by omega), if_neg (by omega), if_pos (by omega), if_pos (by omega), show (p - 200).toNat = p.toNat - 200 by omega]]
        exact hR
      obtain ⟨v9, e9⟩ : ∃ v9, r9 = some (.inr v9) := by
        cases hO : ob M p with
        | none => rw [hO] at hR; exact ⟨none, hR⟩
        | some x => rw [hO] at hR; obtain ⟨b, e, -⟩ := hR; exact ⟨some b, e⟩
      subst e9
      show x_X _ 39 [some (.inr (some 0)), some (.inl p)] [.inr v9] _ _
      exact ⟨_, _, xb_a dm_Ma_itemAt_39 rfl (Or.inl ⟨_, rfl⟩), rfl, hR⟩
  · change x_X _ 7 _ _ _ _
    refine xx (xs_aload_n dm_Ma_itemAt_7 rfl) ?_
    refine xx (xs_getf dm_Ma_itemAt_8 lf_Ma_28 m1 rfl) ?_
    refine xx (xs_iload_n dm_Ma_itemAt_11 rfl) ?_
    refine xx (xs_sipush dm_Ma_itemAt_12 (by decide)) ?_
    refine xx (xs_isub dm_Ma_itemAt_15) ?_
    refine xcV (as := [.inl (p - 300)]) (rest := []) dm_Ma_itemAt_16 lc_Sh_get lm_Ma_262 li_Sh_get (nr rfl rfl) rfl rfl (cL_c m6).choose_spec rfl (nl rfl) (sh_getR (p := p - 300) m6 (by unfold ir; omega)) ?_
    rintro r9 hx9 ⟨hhx9, hR⟩
    have hhx9 := hhx9.symm
    subst hhx9
    have hR : itR h (ob M p) r9 := by
      rw [show ob M p = (if 0 ≤ p - 300 then M.2.2.2.1[(p - 300).toNat]? else none) from by unfold ob; rw [if_neg (by omega), if_neg (by omega), if_neg (by omega), if_pos (by omega), if_pos (by omega), show (p - 300).toNat = p.toNat - 300 by omega]]
      exact hR
    obtain ⟨v9, e9⟩ : ∃ v9, r9 = some (.inr v9) := by
      cases hO : ob M p with
      | none => rw [hO] at hR; exact ⟨none, hR⟩
      | some x => rw [hO] at hR; obtain ⟨b, e, -⟩ := hR; exact ⟨some b, e⟩
    subst e9
    show x_X _ 19 [some (.inr (some 0)), some (.inl p)] [.inr v9] _ _
    exact ⟨_, _, xb_a dm_Ma_itemAt_19 rfl (Or.inl ⟨_, rfl⟩), rfl, hR⟩
set_option maxHeartbeats 4000000 in
set_option maxRecDepth 100000 in
theorem ma_partAt {h : xH} {M : mS} {p i : Int} (hm : cM h M) (hp : ir p) (hi : ir i) : x_Mx mm_Ma_partAt [.inr (some 0), .inl p, .inl i] h (fun r hf => hf = h ∧ rwR h (prt M p i) r) := by
  refine xmx rfl (nl rfl) ?_
  have hi2 := hi
  unfold ir at hi2
  have m1 := hm.1
  show x_X _ 0 [some (.inr (some 0)), some (.inl p), some (.inl i), none] [] _ _
  refine xx (xs_aload_n dm_Ma_partAt_0 rfl) ?_
  refine xx (xs_iload_n dm_Ma_partAt_1 rfl) ?_
  refine xcV (as := [.inl p]) (rest := []) dm_Ma_partAt_2 lc_Ma_itemAt lm_Ma_201 li_Ma_itemAt (nr rfl rfl) rfl rfl m1 rfl (nl rfl) (ma_itemAt hm hp) ?_
  rintro r9 hx9 ⟨hhx9, hR⟩
  have hhx9 := hhx9.symm
  subst hhx9
  unfold prt
  cases hO : ob M p with
  | none =>
    rw [hO] at hR
    have hR' : r9 = some (.inr none) := hR
    subst hR'
    show x_X _ 5 [some (.inr (some 0)), some (.inl p), some (.inl i), none] [.inr none] _ _
    refine xx (xs_astore_n dm_Ma_partAt_5 (by decide)) ?_
    show x_X _ 6 [some (.inr (some 0)), some (.inl p), some (.inl i), some (.inr none)] [] _ _
    refine xx (xs_aload_n dm_Ma_partAt_6 rfl) ?_
    refine xx (xs_ifnonnull_f dm_Ma_partAt_7) ?_
    refine xx (xs_null dm_Ma_partAt_10) ?_
    exact ⟨_, _, xb_a dm_Ma_partAt_11 rfl (Or.inl ⟨_, rfl⟩), rfl, rfl⟩
  | some x =>
    rw [hO] at hR
    obtain ⟨b, e9, hb⟩ := hR
    subst e9
    obtain ⟨-, m, y, bc, wm, hy⟩ := hb
    show x_X _ _ _ _ _ (fun r hf => hf = h ∧ rwR h (rowI x i) r)
    unfold rowI
    show x_X _ 5 [some (.inr (some 0)), some (.inl p), some (.inl i), none] [.inr (some b)] _ _
    refine xx (xs_astore_n dm_Ma_partAt_5 (by decide)) ?_
    show x_X _ 6 [some (.inr (some 0)), some (.inl p), some (.inl i), some (.inr (some b))] [] _ _
    refine xx (xs_aload_n dm_Ma_partAt_6 rfl) ?_
    refine xx (xs_ifnonnull_t (tgt := 12) dm_Ma_partAt_7 rfl) ?_
    refine xx (xs_iload_n dm_Ma_partAt_12 rfl) ?_
    refine xx_if_ne (tgt := 23) dm_Ma_partAt_13 rfl hi (fun hc => ?_) (fun hc => ?_)
    · change x_X _ 23 _ _ _ _
      rw [if_neg hc]
      refine xx (xs_aload_n dm_Ma_partAt_23 rfl) ?_
      refine xx (xs_getf dm_Ma_partAt_24 lf_Ma_140 bc rfl) ?_
      refine xx (xs_iload_n dm_Ma_partAt_27 rfl) ?_
      refine xx (xs_iconst dm_Ma_partAt_28) ?_
      refine xx (xs_isub dm_Ma_partAt_29) ?_
      obtain ⟨hyf, hyc⟩ := hyA_c hy
      obtain ⟨j, hj⟩ : ∃ j, j = wr (i - 1) := ⟨_, rfl⟩
      refine xx xs_norm ?_
      rw [← hj]
      unfold wr at hj
      have h6 : x.2.2.length ≤ 6 := by obtain ⟨-, _, _, -, -, -, -, h6, -⟩ := hy; exact h6
      show x_X _ 30 [some (.inr (some 0)), some (.inl p), some (.inl i), some (.inr (some b))] [.inl j, .inr (some y)] _ _
      refine xcV (as := [.inl j]) (rest := []) dm_Ma_partAt_30 lc_Hy_get lm_Ma_265 li_Hy_get (nr rfl rfl) rfl rfl hyc rfl (nl rfl) (hy_get (p := j) hy (by unfold ir; omega)) ?_
      rintro r9 hx9 ⟨hhx9, hR⟩
      have hhx9 := hhx9.symm
      subst hhx9
      rcases hR with ⟨a1, a2, c, l, hl, e9, wl⟩ | ⟨a1, e9⟩
      · subst e9
        show x_X _ 33 [some (.inr (some 0)), some (.inl p), some (.inl i), some (.inr (some b))] [.inr (some c)] _ _
        exact ⟨_, _, xb_a dm_Ma_partAt_33 rfl (Or.inl ⟨_, rfl⟩), rfl, by rw [if_neg (by omega), show i.toNat - 1 = j.toNat by omega, hl]; exact ⟨c, rfl, wl⟩⟩
      · subst e9
        show x_X _ 33 [some (.inr (some 0)), some (.inl p), some (.inl i), some (.inr (some b))] [.inr none] _ _
        exact ⟨_, _, xb_a dm_Ma_partAt_33 rfl (Or.inl ⟨_, rfl⟩), rfl, by by_cases h0 : i < 0; rw [if_pos h0]; exact rfl; rw [if_neg h0, List.getElem?_eq_none (show x.2.2.length ≤ i.toNat - 1 by omega)]; exact rfl⟩
    · change x_X _ 16 _ _ _ _
      rw [if_pos hc]
      refine xx (xs_aload_n dm_Ma_partAt_16 rfl) ?_
      refine xx (xs_getf dm_Ma_partAt_17 lf_Ma_132 bc rfl) ?_
      refine xx (xs_goto (tgt := 33) dm_Ma_partAt_20 rfl) ?_
      exact ⟨_, _, xb_a dm_Ma_partAt_33 rfl (Or.inl ⟨_, rfl⟩), rfl, m, rfl, wm⟩
