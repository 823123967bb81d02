theorem rxq {E : rE} {M : xM} {pc : Nat} {L : List (Option xV)} {st : List xV} {q : rS} {Q Q' : Option xV → rS → Prop} (h : rX E M pc L st q Q) (hq : ∀ r q', Q r q' → Q' r q') : rX E M pc L st q Q' := by
  obtain ⟨r, hf, hb, q', e, hh⟩ := h
  exact ⟨r, hf, hb, q', e, hq r q' hh⟩
theorem vi {a b : Int} (h : a = b) : (some (.inl a) : Option xV) = some (.inl b) := by rw [h]
/-! rows: are they the same, where does a type, a term end -/
set_option maxHeartbeats 4000000 in
set_option maxRecDepth 100000 in
theorem re_same0 {q : rS} {pa pe pb be k : Int} (E : rE) (h1 : ir (pe - pa)) (h2 : ir k) : rX E mm_Re_sameRow 20 [some (.inr (some E.1.length)), some (.inl pa), some (.inl pe), some (.inl pb), some (.inl be), some (.inl 0), some (.inl k)] [] q (fun r q' => r = some (.inl 0) ∧ q' = q) := by
  refine rx (xs_iload dm_Re_sameRow_20 rfl) ?_
  refine rx (xs_iload_n dm_Re_sameRow_22 rfl) ?_
  refine rx (xs_iload_n dm_Re_sameRow_23 rfl) ?_
  refine rx (xs_isub dm_Re_sameRow_24) ?_
  refine xx_icmp_ge (tgt := 67) dm_Re_sameRow_25 rfl h2 h1 (fun hc => ?_) (fun hc => ?_)
  · change rX E _ 67 _ _ _ _
    refine rx (xs_iload dm_Re_sameRow_67 rfl) ?_
    exact rrz dm_Re_sameRow_69 rfl (Or.inl rfl) ⟨rfl, rfl⟩
  · change rX E _ 28 _ _ _ _
    refine rx (xs_iload dm_Re_sameRow_28 rfl) ?_
    refine rx (xs_if_eq_t (tgt := 67) dm_Re_sameRow_30 rfl (by unfold ir; omega) rfl) ?_
    refine rx (xs_iload dm_Re_sameRow_67 rfl) ?_
    exact rrz dm_Re_sameRow_69 rfl (Or.inl rfl) ⟨rfl, rfl⟩
set_option maxHeartbeats 4000000 in
set_option maxRecDepth 100000 in
theorem re_same1 {q : rS} {p p2 : Nat} {pe be : Int} (E : rE) (hb : pe < 100000) (hb2 : p2 < 100000) (a : List Int) : ∀ (b : List Int) (k : Nat) (kk : Int), kk = k → a.length = b.length → sg q (p + k) a → sg q (p2 + k) b → (p : Int) + k + a.length = pe → p2 + k + b.length ≤ 10000 → p + k + a.length ≤ 10000 → (∀ x ∈ a, ir x) → (∀ x ∈ b, ir x) → rX E mm_Re_sameRow 20 [some (.inr (some E.1.length)), some (.inl (p : Int)), some (.inl pe), some (.inl (p2 : Int)), some (.inl be), some (.inl 1), some (.inl kk)] [] q (fun r q' => r = some (.inl (if a = b then 1 else 0)) ∧ q' = q) := by
  induction a with
  | nil =>
    intro b k kk hkk hl ha hbb he h5 h6 hia hib
    have hb0 : b = [] := List.length_eq_zero_iff.mp hl.symm
    subst hb0
    simp at he
    refine rx (xs_iload dm_Re_sameRow_20 rfl) ?_
    refine rx (xs_iload_n dm_Re_sameRow_22 rfl) ?_
    refine rx (xs_iload_n dm_Re_sameRow_23 rfl) ?_
    refine rx (xs_isub dm_Re_sameRow_24) ?_
    refine rx (xs_icmp_ge_t (tgt := 67) dm_Re_sameRow_25 rfl (by unfold ir; omega) (by unfold ir; omega) (by omega)) ?_
    refine rx (xs_iload dm_Re_sameRow_67 rfl) ?_
    exact rrz dm_Re_sameRow_69 rfl (Or.inr rfl) ⟨rfl, rfl⟩
  | cons x a ih =>
    intro b k kk hkk hl ha hbb he h5 h6 hia hib
    cases b with
    | nil => simp at hl
    | cons x2 b =>
    simp only [List.length_cons] at hl he h5 h6
    have i1 : ir x := hia x List.mem_cons_self
    have i2 : ir x2 := hib x2 List.mem_cons_self
    refine rx (xs_iload dm_Re_sameRow_20 rfl) ?_
    refine rx (xs_iload_n dm_Re_sameRow_22 rfl) ?_
    refine rx (xs_iload_n dm_Re_sameRow_23 rfl) ?_
    refine rx (xs_isub dm_Re_sameRow_24) ?_
    refine rx (xs_icmp_ge_f (tgt := 67) dm_Re_sameRow_25 rfl (by unfold ir; omega) (by unfold ir; omega) (by omega)) ?_
    refine rx (xs_iload dm_Re_sameRow_28 rfl) ?_
    refine rx (xs_if_eq_f (tgt := 67) dm_Re_sameRow_30 rfl (by unfold ir; omega) (by decide)) ?_
    refine rx (xs_aload_n dm_Re_sameRow_33 rfl) ?_
    refine rx (rg (v := .inr (some (rA E 0))) dm_Re_sameRow_34 lf_Re_7 rfl) ?_
    refine rx (xs_iload_n dm_Re_sameRow_37 rfl) ?_
    refine rx (xs_iload dm_Re_sameRow_38 rfl) ?_
    refine rx (xs_iadd dm_Re_sameRow_40) ?_
    refine rx (rlv 0 x (by decide) dm_Re_sameRow_41 (by omega) (by show _ < ((10000 : Nat) : Int); omega) (by rw [show ((p : Int) + kk).toNat = p + k by omega]; exact sg_hd ha)) ?_
    refine rx (xs_aload_n dm_Re_sameRow_42 rfl) ?_
    refine rx (rg (v := .inr (some (rA E 0))) dm_Re_sameRow_43 lf_Re_7 rfl) ?_
    refine rx (xs_iload_n dm_Re_sameRow_46 rfl) ?_
    refine rx (xs_iload dm_Re_sameRow_47 rfl) ?_
    refine rx (xs_iadd dm_Re_sameRow_49) ?_
    refine rx (rlv 0 x2 (by decide) dm_Re_sameRow_50 (by omega) (by show _ < ((10000 : Nat) : Int); omega) (by rw [show ((p2 : Int) + kk).toNat = p2 + k by omega]; exact sg_hd hbb)) ?_
    refine xx_icmp_ne (tgt := 58) dm_Re_sameRow_51 rfl i1 i2 (fun hc => ?_) (fun hc => ?_)
    · change rX E _ 58 _ _ _ _
      refine rx (xs_iconst dm_Re_sameRow_58) ?_
      refine rx (xs_istore dm_Re_sameRow_59 (by decide)) ?_
      show rX E _ 61 [some (.inr (some E.1.length)), some (.inl (p : Int)), some (.inl pe), some (.inl (p2 : Int)), some (.inl be), some (.inl 0), some (.inl kk)] [] _ _
      refine rx (xs_iinc dm_Re_sameRow_61 rfl (by decide)) ?_
      show rX E _ 64 [some (.inr (some E.1.length)), some (.inl (p : Int)), some (.inl pe), some (.inl (p2 : Int)), some (.inl be), some (.inl 0), some (.inl (kk + 1))] [] _ _
      refine rx (xs_goto (tgt := 20) dm_Re_sameRow_64 rfl) ?_
      have hn : ¬ (x :: a = x2 :: b) := fun e => hc (by simp at e; exact e.1)
      rw [if_neg hn]
      exact re_same0 E (by unfold ir; omega) (by unfold ir; omega)
    · change rX E _ 54 _ _ _ _
      refine rx (xs_iconst dm_Re_sameRow_54) ?_
      refine rx (xs_goto (tgt := 59) dm_Re_sameRow_55 rfl) ?_
      refine rx (xs_istore dm_Re_sameRow_59 (by decide)) ?_
      show rX E _ 61 [some (.inr (some E.1.length)), some (.inl (p : Int)), some (.inl pe), some (.inl (p2 : Int)), some (.inl be), some (.inl 1), some (.inl kk)] [] _ _
      refine rx (xs_iinc dm_Re_sameRow_61 rfl (by decide)) ?_
      show rX E _ 64 [some (.inr (some E.1.length)), some (.inl (p : Int)), some (.inl pe), some (.inl (p2 : Int)), some (.inl be), some (.inl 1), some (.inl (kk + 1))] [] _ _
      refine rx (xs_goto (tgt := 20) dm_Re_sameRow_64 rfl) ?_
      subst hc
      refine rxq (ih b (k + 1) _ (by omega) (by omega) (sg_tl ha) (sg_tl hbb) (by omega) (by omega) (by omega) (fun z hz => hia z (List.mem_cons_of_mem _ hz)) (fun z hz => hib z (List.mem_cons_of_mem _ hz))) ?_
      rintro _ _ ⟨rfl, rfl⟩
      exact ⟨by simp, rfl⟩
set_option maxHeartbeats 4000000 in
set_option maxRecDepth 100000 in
theorem re_sameRow {q : rS} {p p2 : Nat} {fa pe fb be : Int} {a b : List Int} (ha : sg q p a) (hb : sg q p2 b) (h1 : fa = p) (h2 : pe = (p : Int) + a.length) (h3 : fb = p2) (h4 : be = (p2 : Int) + b.length) (h5 : p + a.length ≤ 10000) (h6 : p2 + b.length ≤ 10000) (hia : ∀ x ∈ a, ir x) (hib : ∀ x ∈ b, ir x) : rM mm_Re_sameRow [.inl fa, .inl pe, .inl fb, .inl be] q (fun r q' => r = some (.inl (if a = b then 1 else 0)) ∧ q' = q) := by
  refine rm rfl (nl rfl) (fun E => ?_)
  subst h1
  subst h3
  show rX E _ 0 [some (.inr (some E.1.length)), some (.inl (p : Int)), some (.inl pe), some (.inl (p2 : Int)), some (.inl be), none, none] [] _ _
  refine rx (xs_iload_n dm_Re_sameRow_0 rfl) ?_
  refine rx (xs_iload_n dm_Re_sameRow_1 rfl) ?_
  refine rx (xs_isub dm_Re_sameRow_2) ?_
  refine rx (xs_iload dm_Re_sameRow_3 rfl) ?_
  refine rx (xs_iload_n dm_Re_sameRow_5 rfl) ?_
  refine rx (xs_isub dm_Re_sameRow_6) ?_
  refine xx_icmp_ne (tgt := 14) dm_Re_sameRow_7 rfl (by unfold ir; omega) (by unfold ir; omega) (fun hc => ?_) (fun hc => ?_)
  · change rX E _ 14 _ _ _ _
    refine rx (xs_iconst dm_Re_sameRow_14) ?_
    refine rx (xs_istore dm_Re_sameRow_15 (by decide)) ?_
    show rX E _ 17 [some (.inr (some E.1.length)), some (.inl (p : Int)), some (.inl pe), some (.inl (p2 : Int)), some (.inl be), some (.inl 0), none] [] _ _
    refine rx (xs_iconst dm_Re_sameRow_17) ?_
    refine rx (xs_istore dm_Re_sameRow_18 (by decide)) ?_
    show rX E _ 20 [some (.inr (some E.1.length)), some (.inl (p : Int)), some (.inl pe), some (.inl (p2 : Int)), some (.inl be), some (.inl 0), some (.inl 0)] [] _ _
    have hn : ¬ a = b := fun e => hc (by subst e; omega)
    rw [if_neg hn]
    exact re_same0 E (by unfold ir; omega) (by unfold ir; omega)
  · change rX E _ 10 _ _ _ _
    refine rx (xs_iconst dm_Re_sameRow_10) ?_
    refine rx (xs_goto (tgt := 15) dm_Re_sameRow_11 rfl) ?_
    refine rx (xs_istore dm_Re_sameRow_15 (by decide)) ?_
    show rX E _ 17 [some (.inr (some E.1.length)), some (.inl (p : Int)), some (.inl pe), some (.inl (p2 : Int)), some (.inl be), some (.inl 1), none] [] _ _
    refine rx (xs_iconst dm_Re_sameRow_17) ?_
    refine rx (xs_istore dm_Re_sameRow_18 (by decide)) ?_
    show rX E _ 20 [some (.inr (some E.1.length)), some (.inl (p : Int)), some (.inl pe), some (.inl (p2 : Int)), some (.inl be), some (.inl 1), some (.inl 0)] [] _ _
    exact re_same1 E (by omega) (by omega) a b 0 _ rfl (by omega) ha hb (by omega) (by omega) (by omega) hia hib
set_option maxHeartbeats 4000000 in
set_option maxRecDepth 100000 in
theorem re_skipType_l {q : rS} {p0 : Int} (E : rE) (l : List Int) : ∀ (n k : Nat) (nn kk : Int), nn = n → kk = k → sg q k l → tyS l n = some [] → k + l.length ≤ 10000 → n + l.length ≤ 100000 → (∀ s ∈ l, ir s) → rX E mm_Re_skipType 4 [some (.inr (some E.1.length)), some (.inl p0), some (.inl nn), some (.inl kk)] [] q (fun r q' => r = some (.inl ((k : Int) + (l.length : Int))) ∧ q' = q) := by
  induction l with
  | nil =>
    intro n k nn kk hnn hkk hs ht h1 h2 hi
    have hn : n = 0 := by
      by_cases h : n = 0
      · exact h
      · simp [tyS, h] at ht
    refine rx (xs_iload_n dm_Re_skipType_4 rfl) ?_
    refine rx (xs_if_le_t (tgt := 31) dm_Re_skipType_5 rfl (by unfold ir; omega) (by omega)) ?_
    refine rx (xs_iload_n dm_Re_skipType_31 rfl) ?_
    exact rri dm_Re_skipType_32 rfl ⟨vi (by simp; omega), rfl⟩
  | cons s l ih =>
    intro n k nn kk hnn hkk hs ht h1 h2 hi
    simp only [List.length_cons] at h1 h2
    have i1 : ir s := hi s List.mem_cons_self
    have hn : ¬ n = 0 := fun e => by subst e; simp [tyS] at ht
    refine rx (xs_iload_n dm_Re_skipType_4 rfl) ?_
    refine rx (xs_if_le_f (tgt := 31) dm_Re_skipType_5 rfl (by unfold ir; omega) (by omega)) ?_
    refine rx (xs_iload_n dm_Re_skipType_8 rfl) ?_
    refine rx (xs_aload_n dm_Re_skipType_9 rfl) ?_
    refine rx (rg (v := .inr (some (rA E 0))) dm_Re_skipType_10 lf_Re_7 rfl) ?_
    refine rx (xs_iload_n dm_Re_skipType_13 rfl) ?_
    refine rx (rlv 0 s (by decide) dm_Re_skipType_14 (by omega) (by show _ < ((10000 : Nat) : Int); omega) (by rw [hkk, Int.toNat_natCast]; exact sg_hd hs)) ?_
    refine xx_if_ne (tgt := 22) dm_Re_skipType_15 rfl i1 (fun hc => ?_) (fun hc => ?_)
    · change rX E _ 22 _ _ _ _
      refine rx (xs_iconst dm_Re_skipType_22) ?_
      refine rx (xs_iadd dm_Re_skipType_23) ?_
      refine rx (xs_istore_n dm_Re_skipType_24 (by decide)) ?_
      show rX E _ 25 [some (.inr (some E.1.length)), some (.inl p0), some (.inl (nn + (-1))), some (.inl kk)] [] _ _
      refine rx (xs_iinc dm_Re_skipType_25 rfl (by decide)) ?_
      show rX E _ 28 [some (.inr (some E.1.length)), some (.inl p0), some (.inl (nn + (-1))), some (.inl (kk + 1))] [] _ _
      refine rx (xs_goto (tgt := 4) dm_Re_skipType_28 rfl) ?_
      have ht2 : tyS l (n - 1) = some [] := by simpa [tyS, hn, hc] using ht
      refine rxq (ih (n - 1) (k + 1) _ _ (by omega) (by omega) (sg_tl hs) ht2 (by omega) (by omega) (fun z hz => hi z (List.mem_cons_of_mem _ hz))) ?_
      rintro _ _ ⟨rfl, rfl⟩
      exact ⟨by simp; omega, rfl⟩
    · change rX E _ 18 _ _ _ _
      refine rx (xs_iconst dm_Re_skipType_18) ?_
      refine rx (xs_goto (tgt := 23) dm_Re_skipType_19 rfl) ?_
      refine rx (xs_iadd dm_Re_skipType_23) ?_
      refine rx (xs_istore_n dm_Re_skipType_24 (by decide)) ?_
      show rX E _ 25 [some (.inr (some E.1.length)), some (.inl p0), some (.inl (nn + 1)), some (.inl kk)] [] _ _
      refine rx (xs_iinc dm_Re_skipType_25 rfl (by decide)) ?_
      show rX E _ 28 [some (.inr (some E.1.length)), some (.inl p0), some (.inl (nn + 1)), some (.inl (kk + 1))] [] _ _
      refine rx (xs_goto (tgt := 4) dm_Re_skipType_28 rfl) ?_
      have ht2 : tyS l (n + 1) = some [] := by simpa [tyS, hn, hc] using ht
      refine rxq (ih (n + 1) (k + 1) _ _ (by omega) (by omega) (sg_tl hs) ht2 (by omega) (by omega) (fun z hz => hi z (List.mem_cons_of_mem _ hz))) ?_
      rintro _ _ ⟨rfl, rfl⟩
      exact ⟨by simp; omega, rfl⟩
theorem isTy_ir {l : List Int} (h : isTy l) : ∀ s ∈ l, ir s := fun s hs => by have := isTy_sym h s hs; unfold ir; omega
set_option maxHeartbeats 4000000 in
set_option maxRecDepth 100000 in
theorem re_skipType {q : rS} {f : Int} {p : Nat} {a : List Int} (hs : sg q p a) (ha : isTy a) (hf : f = p) (h1 : p + a.length ≤ 10000) : rM mm_Re_skipType [.inl f] q (fun r q' => r = some (.inl ((p : Int) + (a.length : Int))) ∧ q' = q) := by
  refine rm rfl (nl rfl) (fun E => ?_)
  subst hf
  show rX E _ 0 [some (.inr (some E.1.length)), some (.inl (p : Int)), none, none] [] _ _
  refine rx (xs_iconst dm_Re_skipType_0) ?_
  refine rx (xs_istore_n dm_Re_skipType_1 (by decide)) ?_
  show rX E _ 2 [some (.inr (some E.1.length)), some (.inl (p : Int)), some (.inl 1), none] [] _ _
  refine rx (xs_iload_n dm_Re_skipType_2 rfl) ?_
  refine rx (xs_istore_n dm_Re_skipType_3 (by decide)) ?_
  show rX E _ 4 [some (.inr (some E.1.length)), some (.inl (p : Int)), some (.inl 1), some (.inl (p : Int))] [] _ _
  exact re_skipType_l E a 1 p _ _ rfl rfl hs (by have := tyS_ty ha [] 0; simpa [tyS] using this) h1 (by omega) (isTy_ir ha)
/-- so many terms, one behind the other -/
def tms : Nat → List Int → Prop
  | 0, l => l = []
  | n + 1, l => ∃ (G : List (List Int)) (t a r : List Int), isTm G t a ∧ l = t ++ r ∧ tms n r
set_option maxHeartbeats 4000000 in
set_option maxRecDepth 100000 in
theorem re_skipTerm_l {q : rS} {p0 : Int} (E : rE) : ∀ (N : Nat) (l : List Int) (n k : Nat) (nn kk : Int) (o : Option xV), nn = n → kk = k → l.length < N → sg q k l → tms n l → k + l.length ≤ 10000 → n + l.length ≤ 100000 → (∀ s ∈ l, ir s) → rX E mm_Re_skipTerm 4 [some (.inr (some E.1.length)), some (.inl p0), some (.inl nn), some (.inl kk), o] [] q (fun r q' => r = some (.inl ((k : Int) + (l.length : Int))) ∧ q' = q) := by
  intro N
  induction N with
  | zero => intro l n k nn kk o _ _ hN; omega
  | succ N ih =>
    intro l n k nn kk o hnn hkk hN hs ht h1 h2 hi
    cases n with
    | zero =>
      have hl : l = [] := ht
      subst hl
      refine rx (xs_iload_n dm_Re_skipTerm_4 rfl) ?_
      refine rx (xs_if_le_t (tgt := 90) dm_Re_skipTerm_5 rfl (by unfold ir; omega) (by omega)) ?_
      refine rx (xs_iload_n dm_Re_skipTerm_90 rfl) ?_
      exact rri dm_Re_skipTerm_91 rfl ⟨vi (by simp; omega), rfl⟩
    | succ n =>
    obtain ⟨G, t, a, r, htm, hl, hr⟩ := ht
    subst hl
    rcases isTm_inv htm with ⟨m, m0, m7, ha, e⟩ | ⟨m, m0, m7, ha, e⟩ | ⟨s, ha, e, -⟩ | ⟨d, hd, ha, e⟩ | ⟨f, x, s, hs1, ha1, hf, hx, e⟩ | ⟨s, u, b, hs1, hb1, hu, e, -⟩
    · subst e
      simp only [List.cons_append, List.append_assoc, List.nil_append, List.length_append, List.length_cons, List.length_nil] at hs hN h1 h2 hi
      refine rx (xs_iload_n dm_Re_skipTerm_4 rfl) ?_
      refine rx (xs_if_le_f (tgt := 90) dm_Re_skipTerm_5 rfl (by unfold ir; omega) (by omega)) ?_
      refine rx (xs_aload_n dm_Re_skipTerm_8 rfl) ?_
      refine rx (rg (v := .inr (some (rA E 0))) dm_Re_skipTerm_9 lf_Re_7 rfl) ?_
      refine rx (xs_iload_n dm_Re_skipTerm_12 rfl) ?_
      refine rx (rlv 0 10 (by decide) dm_Re_skipTerm_13 (by omega) (by show _ < ((10000 : Nat) : Int); omega) (by rw [hkk, Int.toNat_natCast]; exact sg_hd hs)) ?_
      refine rx (xs_istore dm_Re_skipTerm_14 (by decide)) ?_
      show rX E _ 16 [some (.inr (some E.1.length)), some (.inl p0), some (.inl nn), some (.inl kk), some (.inl 10)] [] _ _
      refine rx (xs_iload_n dm_Re_skipTerm_16 rfl) ?_
      refine rx (xs_iload dm_Re_skipTerm_17 rfl) ?_
      refine rx (xs_bipush dm_Re_skipTerm_19 (by decide)) ?_
      refine rx (xs_icmp_ne_t (tgt := 28) dm_Re_skipTerm_21 rfl (by unfold ir; omega) (by unfold ir; omega) (by decide)) ?_
      refine rx (xs_iload dm_Re_skipTerm_28 rfl) ?_
      refine rx (xs_bipush dm_Re_skipTerm_30 (by decide)) ?_
      refine rx (xs_icmp_ne_t (tgt := 39) dm_Re_skipTerm_32 rfl (by unfold ir; omega) (by unfold ir; omega) (by decide)) ?_
      refine rx (xs_iconst dm_Re_skipTerm_39) ?_
      refine rx (xs_iadd dm_Re_skipTerm_40) ?_
      refine rx (xs_istore_n dm_Re_skipTerm_41 (by decide)) ?_
      show rX E _ 42 [some (.inr (some E.1.length)), some (.inl p0), some (.inl (nn + (-1))), some (.inl kk), some (.inl 10)] [] _ _
      refine rx (xs_iload dm_Re_skipTerm_42 rfl) ?_
      refine rx (xs_bipush dm_Re_skipTerm_44 (by decide)) ?_
      refine rx (xs_icmp_ne_t (tgt := 59) dm_Re_skipTerm_46 rfl (by unfold ir; omega) (by unfold ir; omega) (by decide)) ?_
      refine rx (xs_iload dm_Re_skipTerm_59 rfl) ?_
      refine rx (xs_bipush dm_Re_skipTerm_61 (by decide)) ?_
      refine rx (xs_icmp_eq_t (tgt := 73) dm_Re_skipTerm_63 rfl (by unfold ir; omega) (by unfold ir; omega) (by decide)) ?_
      refine rx (xs_aload_n dm_Re_skipTerm_73 rfl) ?_
      refine rx (xs_iload_n dm_Re_skipTerm_74 rfl) ?_
      refine rx (xs_iconst dm_Re_skipTerm_75) ?_
      refine rx (xs_iadd dm_Re_skipTerm_76) ?_
      have hs2 := sg_tl (sg_tl hs)
      rw [sg_app] at hs2
      refine rcV (as := [.inl (kk + 2)]) (rest := []) dm_Re_skipTerm_77 lc_Re_skipType lm_Re_36 li_Re_skipType (nr rfl rfl) rfl rfl rfl (nl rfl) (re_skipType (p := k + 1 + 1) hs2.1 ha (by omega) (by omega)) ?_
      rintro _ q1 ⟨rfl, hq1⟩
      have hq1 := hq1.symm
      subst hq1
      show rX E _ 80 [some (.inr (some E.1.length)), some (.inl p0), some (.inl (nn + (-1))), some (.inl kk), some (.inl 10)] [.inl (((k + 1 + 1 : Nat) : Int) + (a.length : Int))] _ _
      refine rx (xs_goto (tgt := 86) dm_Re_skipTerm_80 rfl) ?_
      refine rx (xs_istore_n dm_Re_skipTerm_86 (by decide)) ?_
      show rX E _ 87 [some (.inr (some E.1.length)), some (.inl p0), some (.inl (nn + (-1))), some (.inl (((k + 1 + 1 : Nat) : Int) + (a.length : Int))), some (.inl 10)] [] _ _
      refine rx (xs_goto (tgt := 4) dm_Re_skipTerm_87 rfl) ?_
      refine rxq (ih r n (k + 1 + 1 + a.length) _ _ _ (by omega) (by omega) (by omega) hs2.2 hr (by omega) (by omega) (fun z hz => hi z (by simp [hz]))) ?_
      rintro _ _ ⟨rfl, rfl⟩
      exact ⟨by simp; omega, rfl⟩
    · subst e
      simp only [List.cons_append, List.append_assoc, List.nil_append, List.length_append, List.length_cons, List.length_nil] at hs hN h1 h2 hi
      refine rx (xs_iload_n dm_Re_skipTerm_4 rfl) ?_
      refine rx (xs_if_le_f (tgt := 90) dm_Re_skipTerm_5 rfl (by unfold ir; omega) (by omega)) ?_
      refine rx (xs_aload_n dm_Re_skipTerm_8 rfl) ?_
      refine rx (rg (v := .inr (some (rA E 0))) dm_Re_skipTerm_9 lf_Re_7 rfl) ?_
      refine rx (xs_iload_n dm_Re_skipTerm_12 rfl) ?_
      refine rx (rlv 0 11 (by decide) dm_Re_skipTerm_13 (by omega) (by show _ < ((10000 : Nat) : Int); omega) (by rw [hkk, Int.toNat_natCast]; exact sg_hd hs)) ?_
      refine rx (xs_istore dm_Re_skipTerm_14 (by decide)) ?_
      show rX E _ 16 [some (.inr (some E.1.length)), some (.inl p0), some (.inl nn), some (.inl kk), some (.inl 11)] [] _ _
      refine rx (xs_iload_n dm_Re_skipTerm_16 rfl) ?_
      refine rx (xs_iload dm_Re_skipTerm_17 rfl) ?_
      refine rx (xs_bipush dm_Re_skipTerm_19 (by decide)) ?_
      refine rx (xs_icmp_ne_t (tgt := 28) dm_Re_skipTerm_21 rfl (by unfold ir; omega) (by unfold ir; omega) (by decide)) ?_
      refine rx (xs_iload dm_Re_skipTerm_28 rfl) ?_
      refine rx (xs_bipush dm_Re_skipTerm_30 (by decide)) ?_
      refine rx (xs_icmp_ne_t (tgt := 39) dm_Re_skipTerm_32 rfl (by unfold ir; omega) (by unfold ir; omega) (by decide)) ?_
      refine rx (xs_iconst dm_Re_skipTerm_39) ?_
      refine rx (xs_iadd dm_Re_skipTerm_40) ?_
      refine rx (xs_istore_n dm_Re_skipTerm_41 (by decide)) ?_
      show rX E _ 42 [some (.inr (some E.1.length)), some (.inl p0), some (.inl (nn + (-1))), some (.inl kk), some (.inl 11)] [] _ _
      refine rx (xs_iload dm_Re_skipTerm_42 rfl) ?_
      refine rx (xs_bipush dm_Re_skipTerm_44 (by decide)) ?_
      refine rx (xs_icmp_ne_t (tgt := 59) dm_Re_skipTerm_46 rfl (by unfold ir; omega) (by unfold ir; omega) (by decide)) ?_
      refine rx (xs_iload dm_Re_skipTerm_59 rfl) ?_
      refine rx (xs_bipush dm_Re_skipTerm_61 (by decide)) ?_
      refine rx (xs_icmp_eq_f (tgt := 73) dm_Re_skipTerm_63 rfl (by unfold ir; omega) (by unfold ir; omega) (by decide)) ?_
      refine rx (xs_iload dm_Re_skipTerm_66 rfl) ?_
      refine rx (xs_bipush dm_Re_skipTerm_68 (by decide)) ?_
      refine rx (xs_icmp_ne_f (tgt := 83) dm_Re_skipTerm_70 rfl (by unfold ir; omega) (by unfold ir; omega) (by decide)) ?_
      refine rx (xs_aload_n dm_Re_skipTerm_73 rfl) ?_
      refine rx (xs_iload_n dm_Re_skipTerm_74 rfl) ?_
      refine rx (xs_iconst dm_Re_skipTerm_75) ?_
      refine rx (xs_iadd dm_Re_skipTerm_76) ?_
      have hs2 := sg_tl (sg_tl hs)
      rw [sg_app] at hs2
      refine rcV (as := [.inl (kk + 2)]) (rest := []) dm_Re_skipTerm_77 lc_Re_skipType lm_Re_36 li_Re_skipType (nr rfl rfl) rfl rfl rfl (nl rfl) (re_skipType (p := k + 1 + 1) hs2.1 ha (by omega) (by omega)) ?_
      rintro _ q1 ⟨rfl, hq1⟩
      have hq1 := hq1.symm
      subst hq1
      show rX E _ 80 [some (.inr (some E.1.length)), some (.inl p0), some (.inl (nn + (-1))), some (.inl kk), some (.inl 11)] [.inl (((k + 1 + 1 : Nat) : Int) + (a.length : Int))] _ _
      refine rx (xs_goto (tgt := 86) dm_Re_skipTerm_80 rfl) ?_
      refine rx (xs_istore_n dm_Re_skipTerm_86 (by decide)) ?_
      show rX E _ 87 [some (.inr (some E.1.length)), some (.inl p0), some (.inl (nn + (-1))), some (.inl (((k + 1 + 1 : Nat) : Int) + (a.length : Int))), some (.inl 11)] [] _ _
      refine rx (xs_goto (tgt := 4) dm_Re_skipTerm_87 rfl) ?_
      refine rxq (ih r n (k + 1 + 1 + a.length) _ _ _ (by omega) (by omega) (by omega) hs2.2 hr (by omega) (by omega) (fun z hz => hi z (by simp [hz]))) ?_
      rintro _ _ ⟨rfl, rfl⟩
      exact ⟨by simp; omega, rfl⟩
    · subst e
      simp only [List.cons_append, List.append_assoc, List.nil_append, List.length_append, List.length_cons, List.length_nil] at hs hN h1 h2 hi
      refine rx (xs_iload_n dm_Re_skipTerm_4 rfl) ?_
      refine rx (xs_if_le_f (tgt := 90) dm_Re_skipTerm_5 rfl (by unfold ir; omega) (by omega)) ?_
      refine rx (xs_aload_n dm_Re_skipTerm_8 rfl) ?_
      refine rx (rg (v := .inr (some (rA E 0))) dm_Re_skipTerm_9 lf_Re_7 rfl) ?_
      refine rx (xs_iload_n dm_Re_skipTerm_12 rfl) ?_
      refine rx (rlv 0 11 (by decide) dm_Re_skipTerm_13 (by omega) (by show _ < ((10000 : Nat) : Int); omega) (by rw [hkk, Int.toNat_natCast]; exact sg_hd hs)) ?_
      refine rx (xs_istore dm_Re_skipTerm_14 (by decide)) ?_
      show rX E _ 16 [some (.inr (some E.1.length)), some (.inl p0), some (.inl nn), some (.inl kk), some (.inl 11)] [] _ _
      refine rx (xs_iload_n dm_Re_skipTerm_16 rfl) ?_
      refine rx (xs_iload dm_Re_skipTerm_17 rfl) ?_
      refine rx (xs_bipush dm_Re_skipTerm_19 (by decide)) ?_
      refine rx (xs_icmp_ne_t (tgt := 28) dm_Re_skipTerm_21 rfl (by unfold ir; omega) (by unfold ir; omega) (by decide)) ?_
      refine rx (xs_iload dm_Re_skipTerm_28 rfl) ?_
      refine rx (xs_bipush dm_Re_skipTerm_30 (by decide)) ?_
      refine rx (xs_icmp_ne_t (tgt := 39) dm_Re_skipTerm_32 rfl (by unfold ir; omega) (by unfold ir; omega) (by decide)) ?_
      refine rx (xs_iconst dm_Re_skipTerm_39) ?_
      refine rx (xs_iadd dm_Re_skipTerm_40) ?_
      refine rx (xs_istore_n dm_Re_skipTerm_41 (by decide)) ?_
      show rX E _ 42 [some (.inr (some E.1.length)), some (.inl p0), some (.inl (nn + (-1))), some (.inl kk), some (.inl 11)] [] _ _
      refine rx (xs_iload dm_Re_skipTerm_42 rfl) ?_
      refine rx (xs_bipush dm_Re_skipTerm_44 (by decide)) ?_
      refine rx (xs_icmp_ne_t (tgt := 59) dm_Re_skipTerm_46 rfl (by unfold ir; omega) (by unfold ir; omega) (by decide)) ?_
      refine rx (xs_iload dm_Re_skipTerm_59 rfl) ?_
      refine rx (xs_bipush dm_Re_skipTerm_61 (by decide)) ?_
      refine rx (xs_icmp_eq_f (tgt := 73) dm_Re_skipTerm_63 rfl (by unfold ir; omega) (by unfold ir; omega) (by decide)) ?_
      refine rx (xs_iload dm_Re_skipTerm_66 rfl) ?_
      refine rx (xs_bipush dm_Re_skipTerm_68 (by decide)) ?_
      refine rx (xs_icmp_ne_f (tgt := 83) dm_Re_skipTerm_70 rfl (by unfold ir; omega) (by unfold ir; omega) (by decide)) ?_
      refine rx (xs_aload_n dm_Re_skipTerm_73 rfl) ?_
      refine rx (xs_iload_n dm_Re_skipTerm_74 rfl) ?_
      refine rx (xs_iconst dm_Re_skipTerm_75) ?_
      refine rx (xs_iadd dm_Re_skipTerm_76) ?_
      have hs2 := sg_tl (sg_tl hs)
      rw [sg_app] at hs2
      refine rcV (as := [.inl (kk + 2)]) (rest := []) dm_Re_skipTerm_77 lc_Re_skipType lm_Re_36 li_Re_skipType (nr rfl rfl) rfl rfl rfl (nl rfl) (re_skipType (p := k + 1 + 1) hs2.1 ha (by omega) (by omega)) ?_
      rintro _ q1 ⟨rfl, hq1⟩
      have hq1 := hq1.symm
      subst hq1
      show rX E _ 80 [some (.inr (some E.1.length)), some (.inl p0), some (.inl (nn + (-1))), some (.inl kk), some (.inl 11)] [.inl (((k + 1 + 1 : Nat) : Int) + (s.length : Int))] _ _
      refine rx (xs_goto (tgt := 86) dm_Re_skipTerm_80 rfl) ?_
      refine rx (xs_istore_n dm_Re_skipTerm_86 (by decide)) ?_
      show rX E _ 87 [some (.inr (some E.1.length)), some (.inl p0), some (.inl (nn + (-1))), some (.inl (((k + 1 + 1 : Nat) : Int) + (s.length : Int))), some (.inl 11)] [] _ _
      refine rx (xs_goto (tgt := 4) dm_Re_skipTerm_87 rfl) ?_
      refine rxq (ih r n (k + 1 + 1 + s.length) _ _ _ (by omega) (by omega) (by omega) hs2.2 hr (by omega) (by omega) (fun z hz => hi z (by simp [hz]))) ?_
      rintro _ _ ⟨rfl, rfl⟩
      exact ⟨by simp; omega, rfl⟩
    · subst e
      simp only [List.cons_append, List.append_assoc, List.nil_append, List.length_append, List.length_cons, List.length_nil] at hs hN h1 h2 hi
      refine rx (xs_iload_n dm_Re_skipTerm_4 rfl) ?_
      refine rx (xs_if_le_f (tgt := 90) dm_Re_skipTerm_5 rfl (by unfold ir; omega) (by omega)) ?_
      refine rx (xs_aload_n dm_Re_skipTerm_8 rfl) ?_
      refine rx (rg (v := .inr (some (rA E 0))) dm_Re_skipTerm_9 lf_Re_7 rfl) ?_
      refine rx (xs_iload_n dm_Re_skipTerm_12 rfl) ?_
      refine rx (rlv 0 (20 + (d : Int)) (by decide) dm_Re_skipTerm_13 (by omega) (by show _ < ((10000 : Nat) : Int); omega) (by rw [hkk, Int.toNat_natCast]; exact sg_hd hs)) ?_
      refine rx (xs_istore dm_Re_skipTerm_14 (by decide)) ?_
      show rX E _ 16 [some (.inr (some E.1.length)), some (.inl p0), some (.inl nn), some (.inl kk), some (.inl (20 + (d : Int)))] [] _ _
      refine rx (xs_iload_n dm_Re_skipTerm_16 rfl) ?_
      refine rx (xs_iload dm_Re_skipTerm_17 rfl) ?_
      refine rx (xs_bipush dm_Re_skipTerm_19 (by decide)) ?_
      have hib : ir (20 + (d : Int)) := hi _ List.mem_cons_self
      refine rx (xs_icmp_ne_t (tgt := 28) dm_Re_skipTerm_21 rfl hib (by unfold ir; omega) (by omega)) ?_
      refine rx (xs_iload dm_Re_skipTerm_28 rfl) ?_
      refine rx (xs_bipush dm_Re_skipTerm_30 (by decide)) ?_
      refine rx (xs_icmp_ne_t (tgt := 39) dm_Re_skipTerm_32 rfl hib (by unfold ir; omega) (by omega)) ?_
      refine rx (xs_iconst dm_Re_skipTerm_39) ?_
      refine rx (xs_iadd dm_Re_skipTerm_40) ?_
      refine rx (xs_istore_n dm_Re_skipTerm_41 (by decide)) ?_
      show rX E _ 42 [some (.inr (some E.1.length)), some (.inl p0), some (.inl (nn + (-1))), some (.inl kk), some (.inl (20 + (d : Int)))] [] _ _
      refine rx (xs_iload dm_Re_skipTerm_42 rfl) ?_
      refine rx (xs_bipush dm_Re_skipTerm_44 (by decide)) ?_
      refine rx (xs_icmp_ne_t (tgt := 59) dm_Re_skipTerm_46 rfl hib (by unfold ir; omega) (by omega)) ?_
      refine rx (xs_iload dm_Re_skipTerm_59 rfl) ?_
      refine rx (xs_bipush dm_Re_skipTerm_61 (by decide)) ?_
      refine rx (xs_icmp_eq_f (tgt := 73) dm_Re_skipTerm_63 rfl hib (by unfold ir; omega) (by omega)) ?_
      refine rx (xs_iload dm_Re_skipTerm_66 rfl) ?_
      refine rx (xs_bipush dm_Re_skipTerm_68 (by decide)) ?_
      refine rx (xs_icmp_ne_t (tgt := 83) dm_Re_skipTerm_70 rfl hib (by unfold ir; omega) (by omega)) ?_
      refine rx (xs_iload_n dm_Re_skipTerm_83 rfl) ?_
      refine rx (xs_iconst dm_Re_skipTerm_84) ?_
      refine rx (xs_iadd dm_Re_skipTerm_85) ?_
      refine rx (xs_istore_n dm_Re_skipTerm_86 (by decide)) ?_
      show rX E _ 87 [some (.inr (some E.1.length)), some (.inl p0), some (.inl (nn + (-1))), some (.inl (kk + 1)), some (.inl (20 + (d : Int)))] [] _ _
      refine rx (xs_goto (tgt := 4) dm_Re_skipTerm_87 rfl) ?_
      refine rxq (ih r n (k + 1) _ _ _ (by omega) (by omega) (by omega) (sg_tl hs) hr (by omega) (by omega) (fun z hz => hi z (by simp [hz]))) ?_
      rintro _ _ ⟨rfl, rfl⟩
      exact ⟨by simp; omega, rfl⟩
    · subst e
      simp only [List.cons_append, List.append_assoc, List.nil_append, List.length_append, List.length_cons, List.length_nil] at hs hN h1 h2 hi
      refine rx (xs_iload_n dm_Re_skipTerm_4 rfl) ?_
      refine rx (xs_if_le_f (tgt := 90) dm_Re_skipTerm_5 rfl (by unfold ir; omega) (by omega)) ?_
      refine rx (xs_aload_n dm_Re_skipTerm_8 rfl) ?_
      refine rx (rg (v := .inr (some (rA E 0))) dm_Re_skipTerm_9 lf_Re_7 rfl) ?_
      refine rx (xs_iload_n dm_Re_skipTerm_12 rfl) ?_
      refine rx (rlv 0 12 (by decide) dm_Re_skipTerm_13 (by omega) (by show _ < ((10000 : Nat) : Int); omega) (by rw [hkk, Int.toNat_natCast]; exact sg_hd hs)) ?_
      refine rx (xs_istore dm_Re_skipTerm_14 (by decide)) ?_
      show rX E _ 16 [some (.inr (some E.1.length)), some (.inl p0), some (.inl nn), some (.inl kk), some (.inl 12)] [] _ _
      refine rx (xs_iload_n dm_Re_skipTerm_16 rfl) ?_
      refine rx (xs_iload dm_Re_skipTerm_17 rfl) ?_
      refine rx (xs_bipush dm_Re_skipTerm_19 (by decide)) ?_
      refine rx (xs_icmp_ne_f (tgt := 28) dm_Re_skipTerm_21 rfl (by unfold ir; omega) (by unfold ir; omega) (by decide)) ?_
      refine rx (xs_iconst dm_Re_skipTerm_24) ?_
      refine rx (xs_goto (tgt := 40) dm_Re_skipTerm_25 rfl) ?_
      refine rx (xs_iadd dm_Re_skipTerm_40) ?_
      refine rx (xs_istore_n dm_Re_skipTerm_41 (by decide)) ?_
      show rX E _ 42 [some (.inr (some E.1.length)), some (.inl p0), some (.inl (nn + 1)), some (.inl kk), some (.inl 12)] [] _ _
      refine rx (xs_iload dm_Re_skipTerm_42 rfl) ?_
      refine rx (xs_bipush dm_Re_skipTerm_44 (by decide)) ?_
      refine rx (xs_icmp_ne_t (tgt := 59) dm_Re_skipTerm_46 rfl (by unfold ir; omega) (by unfold ir; omega) (by decide)) ?_
      refine rx (xs_iload dm_Re_skipTerm_59 rfl) ?_
      refine rx (xs_bipush dm_Re_skipTerm_61 (by decide)) ?_
      refine rx (xs_icmp_eq_f (tgt := 73) dm_Re_skipTerm_63 rfl (by unfold ir; omega) (by unfold ir; omega) (by decide)) ?_
      refine rx (xs_iload dm_Re_skipTerm_66 rfl) ?_
      refine rx (xs_bipush dm_Re_skipTerm_68 (by decide)) ?_
      refine rx (xs_icmp_ne_t (tgt := 83) dm_Re_skipTerm_70 rfl (by unfold ir; omega) (by unfold ir; omega) (by decide)) ?_
      refine rx (xs_iload_n dm_Re_skipTerm_83 rfl) ?_
      refine rx (xs_iconst dm_Re_skipTerm_84) ?_
      refine rx (xs_iadd dm_Re_skipTerm_85) ?_
      refine rx (xs_istore_n dm_Re_skipTerm_86 (by decide)) ?_
      show rX E _ 87 [some (.inr (some E.1.length)), some (.inl p0), some (.inl (nn + 1)), some (.inl (kk + 1)), some (.inl 12)] [] _ _
      refine rx (xs_goto (tgt := 4) dm_Re_skipTerm_87 rfl) ?_
      refine rxq (ih (f ++ (x ++ r)) (n + 2) (k + 1) _ _ _ (by omega) (by omega) (by simp; omega) (sg_tl hs) ⟨_, _, _, _, hf, rfl, _, _, _, _, hx, rfl, hr⟩ (by simp; omega) (by simp; omega) (fun z hz => hi z (by simp at hz; simp [hz]))) ?_
      rintro _ _ ⟨rfl, rfl⟩
      exact ⟨by simp; omega, rfl⟩
    · subst e
      simp only [List.cons_append, List.append_assoc, List.nil_append, List.length_append, List.length_cons, List.length_nil] at hs hN h1 h2 hi
      refine rx (xs_iload_n dm_Re_skipTerm_4 rfl) ?_
      refine rx (xs_if_le_f (tgt := 90) dm_Re_skipTerm_5 rfl (by unfold ir; omega) (by omega)) ?_
      refine rx (xs_aload_n dm_Re_skipTerm_8 rfl) ?_
      refine rx (rg (v := .inr (some (rA E 0))) dm_Re_skipTerm_9 lf_Re_7 rfl) ?_
      refine rx (xs_iload_n dm_Re_skipTerm_12 rfl) ?_
      refine rx (rlv 0 13 (by decide) dm_Re_skipTerm_13 (by omega) (by show _ < ((10000 : Nat) : Int); omega) (by rw [hkk, Int.toNat_natCast]; exact sg_hd hs)) ?_
      refine rx (xs_istore dm_Re_skipTerm_14 (by decide)) ?_
      show rX E _ 16 [some (.inr (some E.1.length)), some (.inl p0), some (.inl nn), some (.inl kk), some (.inl 13)] [] _ _
      refine rx (xs_iload_n dm_Re_skipTerm_16 rfl) ?_
      refine rx (xs_iload dm_Re_skipTerm_17 rfl) ?_
      refine rx (xs_bipush dm_Re_skipTerm_19 (by decide)) ?_
      refine rx (xs_icmp_ne_t (tgt := 28) dm_Re_skipTerm_21 rfl (by unfold ir; omega) (by unfold ir; omega) (by decide)) ?_
      refine rx (xs_iload dm_Re_skipTerm_28 rfl) ?_
      refine rx (xs_bipush dm_Re_skipTerm_30 (by decide)) ?_
      refine rx (xs_icmp_ne_f (tgt := 39) dm_Re_skipTerm_32 rfl (by unfold ir; omega) (by unfold ir; omega) (by decide)) ?_
      refine rx (xs_iconst dm_Re_skipTerm_35) ?_
      refine rx (xs_goto (tgt := 40) dm_Re_skipTerm_36 rfl) ?_
      refine rx (xs_iadd dm_Re_skipTerm_40) ?_
      refine rx (xs_istore_n dm_Re_skipTerm_41 (by decide)) ?_
      show rX E _ 42 [some (.inr (some E.1.length)), some (.inl p0), some (.inl (nn + 0)), some (.inl kk), some (.inl 13)] [] _ _
      refine rx (xs_iload dm_Re_skipTerm_42 rfl) ?_
      refine rx (xs_bipush dm_Re_skipTerm_44 (by decide)) ?_
      refine rx (xs_icmp_ne_f (tgt := 59) dm_Re_skipTerm_46 rfl (by unfold ir; omega) (by unfold ir; omega) (by decide)) ?_
      refine rx (xs_aload_n dm_Re_skipTerm_49 rfl) ?_
      refine rx (xs_iload_n dm_Re_skipTerm_50 rfl) ?_
      refine rx (xs_iconst dm_Re_skipTerm_51) ?_
      refine rx (xs_iadd dm_Re_skipTerm_52) ?_
      have hs2 := sg_tl hs
      rw [sg_app] at hs2
      refine rcV (as := [.inl (kk + 1)]) (rest := []) dm_Re_skipTerm_53 lc_Re_skipType lm_Re_36 li_Re_skipType (nr rfl rfl) rfl rfl rfl (nl rfl) (re_skipType (p := k + 1) hs2.1 hs1 (by omega) (by omega)) ?_
      rintro _ q1 ⟨rfl, hq1⟩
      have hq1 := hq1.symm
      subst hq1
      show rX E _ 56 [some (.inr (some E.1.length)), some (.inl p0), some (.inl (nn + 0)), some (.inl kk), some (.inl 13)] [.inl (((k + 1 : Nat) : Int) + (s.length : Int))] _ _
      refine rx (xs_goto (tgt := 86) dm_Re_skipTerm_56 rfl) ?_
      refine rx (xs_istore_n dm_Re_skipTerm_86 (by decide)) ?_
      show rX E _ 87 [some (.inr (some E.1.length)), some (.inl p0), some (.inl (nn + 0)), some (.inl (((k + 1 : Nat) : Int) + (s.length : Int))), some (.inl 13)] [] _ _
      refine rx (xs_goto (tgt := 4) dm_Re_skipTerm_87 rfl) ?_
      refine rxq (ih (u ++ r) (n + 1) (k + 1 + s.length) _ _ _ (by omega) (by omega) (by simp; omega) hs2.2 ⟨_, _, _, _, hu, rfl, hr⟩ (by simp; omega) (by simp; omega) (fun z hz => hi z (by simp at hz; simp [hz]))) ?_
      rintro _ _ ⟨rfl, rfl⟩
      exact ⟨by simp; omega, rfl⟩
theorem isTm_ir {G : List (List Int)} {t a : List Int} (h : isTm G t a) (hG : G.length + t.length ≤ 100000) : ∀ s ∈ t, ir s := fun s hs => by have := isTm_sym h s hs; unfold ir; omega
set_option maxHeartbeats 4000000 in
set_option maxRecDepth 100000 in
theorem re_skipTerm {q : rS} {f : Int} {p : Nat} {G : List (List Int)} {t a : List Int} (hs : sg q p t) (ht : isTm G t a) (hf : f = p) (h1 : p + t.length ≤ 10000) (hG : G.length ≤ 50000) : rM mm_Re_skipTerm [.inl f] q (fun r q' => r = some (.inl ((p : Int) + (t.length : Int))) ∧ q' = q) := by
  refine rm rfl (nl rfl) (fun E => ?_)
  subst hf
  show rX E _ 0 [some (.inr (some E.1.length)), some (.inl (p : Int)), none, none, none] [] _ _
  refine rx (xs_iconst dm_Re_skipTerm_0) ?_
  refine rx (xs_istore_n dm_Re_skipTerm_1 (by decide)) ?_
  show rX E _ 2 [some (.inr (some E.1.length)), some (.inl (p : Int)), some (.inl 1), none, none] [] _ _
  refine rx (xs_iload_n dm_Re_skipTerm_2 rfl) ?_
  refine rx (xs_istore_n dm_Re_skipTerm_3 (by decide)) ?_
  show rX E _ 4 [some (.inr (some E.1.length)), some (.inl (p : Int)), some (.inl 1), some (.inl (p : Int)), none] [] _ _
  exact re_skipTerm_l E (t.length + 1) t 1 p _ _ _ rfl rfl (by omega) hs ⟨G, t, a, [], ht, by simp, rfl⟩ h1 (by omega) (isTm_ir ht (by omega))
