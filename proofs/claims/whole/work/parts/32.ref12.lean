/-- all symbols of a row are ints -/
def irL (l : List Int) : Prop := ∀ z ∈ l, ir z
def brg (bl : List Int) (x : List (List Int) × Bool) (hs : List (List Int)) : List (List Int) × Bool := hs.foldl (fun x h => if h = bl then x else hin h x) x
theorem hin_all {P : List Int → Prop} {l : List Int} {x : List (List Int) × Bool} (hx : ∀ h ∈ x.1, P h) (hl : P l) : ∀ h ∈ (hin l x).1, P h := by
  unfold hin
  split
  · exact hx
  · split
    · exact hx
    · intro h hh
      unfold insA at hh
      rcases List.mem_append.mp hh with h1 | h1
      · exact hx h (List.mem_of_mem_take h1)
      · rcases List.mem_cons.mp h1 with h2 | h2
        · subst h2; exact hl
        · exact hx h (List.mem_of_mem_drop h2)
def frW (q q' : rS) : Prop := ∀ a k : Nat, ¬ (a = 3 ∧ k = 28) → ¬ (a = 1 ∧ 113 ≤ k ∧ k ≤ 115) → ¬ (a = 0 ∧ 4520 ≤ k ∧ k < 4640) → ¬ (a = 6 ∧ k = 6) → ¬ (a = 0 ∧ q 6 5 ≤ (k : Int)) → q' a k = q a k
set_option maxHeartbeats 4000000 in
set_option maxRecDepth 100000 in
theorem re_bring_l {oo pf pe : Int} {o pb : Nat} {bl : List Int} {hs : List (List Int)} (E : rE) (hoo : oo = o) (ho : o < 28) (hpf : pf = pb) (hpe : pe = (pb : Int) + (bl.length : Int)) (hpb : pb + bl.length ≤ 4480) (hbi : irL bl) (hhi : ∀ h ∈ hs, irL h) : ∀ (N j : Nat) (q : rS) (x : List (List Int) × Bool) (ii : Int) (o5 o6 o7 : Option xV), hs.length - j < N → j ≤ hs.length → ii = (j : Int) + 1 → hyR q o hs → sg q pb bl → hyB q x → lok q → (∀ h ∈ x.1, irL h) → 5200 ≤ q 6 5 → q 6 5 ≤ 9900 → rX E mm_Re_bring 3 [some (.inr (some E.1.length)), some (.inl oo), some (.inl pf), some (.inl pe), some (.inl ii), o5, o6, o7] [] q (fun r q' => r = none ∧ hyB q' (brg bl x (hs.drop j)) ∧ frW q q' ∧ lok q' ∧ ∀ h ∈ (brg bl x (hs.drop j)).1, irL h) := by
  intro N
  induction N with
  | zero => intro j q x ii o5 o6 o7 hN; omega
  | succ N ih =>
    intro j q x ii o5 o6 o7 hN hj hii hy hbl hyb hlk hxi h1 h2
    obtain ⟨hy1, hy2, hy3⟩ := id hy
    by_cases hjn : j = hs.length
    · subst hjn
      refine rx (xs_iload dm_Re_bring_3 rfl) ?_
      refine rx (xs_aload_n dm_Re_bring_5 rfl) ?_
      refine rx (rg (v := .inr (some (rA E 3))) dm_Re_bring_6 lf_Re_19 rfl) ?_
      refine rx (xs_iload_n dm_Re_bring_9 rfl) ?_
      refine rx (rlv 3 (hs.length : Int) (by decide) dm_Re_bring_10 (by omega) (by show _ < ((30 : Nat) : Int); omega) (by rw [show (oo).toNat = o by omega]; exact hy1)) ?_
      refine rx (xs_icmp_gt_t (tgt := 83) dm_Re_bring_11 rfl (by unfold ir; omega) (by unfold ir; omega) (by omega)) ?_
      rw [List.drop_eq_nil_of_le (Nat.le_refl _)]
      exact rrv dm_Re_bring_83 rfl ⟨rfl, hyb, fun a k _ _ _ _ _ => rfl, hlk, hxi⟩
    · obtain ⟨h, hh⟩ : ∃ h, hs[j]? = some h := ⟨_, List.getElem?_eq_getElem (by omega)⟩
      obtain ⟨r1, r2, r3⟩ := hy3 j h hh
      have hdj : hs.drop j = h :: hs.drop (j + 1) := by
        obtain ⟨hlt, he⟩ := List.getElem?_eq_some_iff.mp hh
        rw [List.drop_eq_getElem_cons hlt, he]
      have hhx := hhi h (List.mem_of_getElem? hh)
      have hbr : brg bl x (hs.drop j) = brg bl (if h = bl then x else hin h x) (hs.drop (j + 1)) := by rw [hdj]; rfl
      rw [hbr]
      refine rx (xs_iload dm_Re_bring_3 rfl) ?_
      refine rx (xs_aload_n dm_Re_bring_5 rfl) ?_
      refine rx (rg (v := .inr (some (rA E 3))) dm_Re_bring_6 lf_Re_19 rfl) ?_
      refine rx (xs_iload_n dm_Re_bring_9 rfl) ?_
      refine rx (rlv 3 (hs.length : Int) (by decide) dm_Re_bring_10 (by omega) (by show _ < ((30 : Nat) : Int); omega) (by rw [show (oo).toNat = o by omega]; exact hy1)) ?_
      refine rx (xs_icmp_gt_f (tgt := 83) dm_Re_bring_11 rfl (by unfold ir; omega) (by unfold ir; omega) (by omega)) ?_
      refine rx (xs_iload_n dm_Re_bring_14 rfl) ?_
      refine rx (xs_iload dm_Re_bring_15 rfl) ?_
      refine rcS (as := [.inl oo, .inl ii]) (rest := []) dm_Re_bring_17 lc_Re_base lm_Re_54 li_Re_base (nr rfl rfl) rfl rfl (nl rfl) (re_base _ _) ?_
      show rX E _ 20 [some (.inr (some E.1.length)), some (.inl oo), some (.inl pf), some (.inl pe), some (.inl ii), o5, o6, o7] [.inl (160 * oo + 40 * ii)] _ _
      refine rx (xs_istore dm_Re_bring_20 (by decide)) ?_
      show rX E _ 22 [some (.inr (some E.1.length)), some (.inl oo), some (.inl pf), some (.inl pe), some (.inl ii), some (.inl (160 * oo + 40 * ii)), o6, o7] [] _ _
      refine rx (xs_iload dm_Re_bring_22 rfl) ?_
      refine rx (xs_aload_n dm_Re_bring_24 rfl) ?_
      refine rx (rg (v := .inr (some (rA E 1))) dm_Re_bring_25 lf_Re_13 rfl) ?_
      refine rx (xs_iconst dm_Re_bring_28) ?_
      refine rx (xs_iload_n dm_Re_bring_29 rfl) ?_
      refine rx (xs_imul dm_Re_bring_30) ?_
      refine rx (xs_iload dm_Re_bring_31 rfl) ?_
      refine rx (xs_iadd dm_Re_bring_33) ?_
      refine rx (rlv 1 (h.length : Int) (by decide) dm_Re_bring_34 (by omega) (by show _ < ((120 : Nat) : Int); omega) (by rw [← r1]; congr 1; omega)) ?_
      refine rx (xs_iadd dm_Re_bring_35) ?_
      refine rx (xs_istore dm_Re_bring_36 (by decide)) ?_
      show rX E _ 38 [some (.inr (some E.1.length)), some (.inl oo), some (.inl pf), some (.inl pe), some (.inl ii), some (.inl (160 * oo + 40 * ii)), some (.inl ((160 * oo + 40 * ii) + (h.length : Int))), o7] [] _ _
      refine rx (xs_aload_n dm_Re_bring_38 rfl) ?_
      refine rx (xs_iload dm_Re_bring_39 rfl) ?_
      refine rx (xs_iload dm_Re_bring_41 rfl) ?_
      refine rx (xs_iload_n dm_Re_bring_43 rfl) ?_
      refine rx (xs_iload_n dm_Re_bring_44 rfl) ?_
      refine rcV (as := [.inl (160 * oo + 40 * ii), .inl ((160 * oo + 40 * ii) + (h.length : Int)), .inl pf, .inl pe]) (rest := []) dm_Re_bring_45 lc_Re_sameRow lm_Re_69 li_Re_sameRow (nr rfl rfl) rfl rfl rfl (nl rfl) (re_sameRow (p := 160 * o + 40 * (j + 1)) (p2 := pb) r2 hbl (by omega) (by omega) hpf hpe (by omega) (by omega) hhx hbi) ?_
      rintro _ q1 ⟨rfl, hq1⟩
      have hq1 := hq1.symm
      subst hq1
      show rX E _ 48 [some (.inr (some E.1.length)), some (.inl oo), some (.inl pf), some (.inl pe), some (.inl ii), some (.inl (160 * oo + 40 * ii)), some (.inl ((160 * oo + 40 * ii) + (h.length : Int))), o7] [.inl (if h = bl then 1 else 0)] _ _
      by_cases hE : h = bl
      · rw [if_pos hE, if_pos hE]
        refine rx (xs_if_ne_t (tgt := 77) dm_Re_bring_48 rfl (by unfold ir; omega) (by decide)) ?_
        refine rx (xs_iinc dm_Re_bring_77 rfl (by decide)) ?_
        show rX E _ 80 [some (.inr (some E.1.length)), some (.inl oo), some (.inl pf), some (.inl pe), some (.inl (ii + 1)), some (.inl (160 * oo + 40 * ii)), some (.inl ((160 * oo + 40 * ii) + (h.length : Int))), o7] [] _ _
        refine rx (xs_goto (tgt := 3) dm_Re_bring_80 rfl) ?_
        exact ih (j + 1) q x _ _ _ _ (by omega) (by omega) (by omega) hy hbl hyb hlk hxi h1 h2
      · rw [if_neg hE, if_neg hE]
        refine rx (xs_if_ne_f (tgt := 77) dm_Re_bring_48 rfl (by unfold ir; omega) rfl) ?_
        refine rx (xs_aload_n dm_Re_bring_51 rfl) ?_
        refine rx (rg (v := .inl (q 6 5)) dm_Re_bring_52 lf_Re_28 rfl) ?_
        refine rx (xs_istore dm_Re_bring_55 (by decide)) ?_
        show rX E _ 57 [some (.inr (some E.1.length)), some (.inl oo), some (.inl pf), some (.inl pe), some (.inl ii), some (.inl (160 * oo + 40 * ii)), some (.inl ((160 * oo + 40 * ii) + (h.length : Int))), some (.inl (q 6 5))] [] _ _
        refine rx (xs_aload_n dm_Re_bring_57 rfl) ?_
        refine rx (xs_iload dm_Re_bring_58 rfl) ?_
        refine rx (xs_iload dm_Re_bring_60 rfl) ?_
        obtain ⟨s, hso⟩ : ∃ s : Nat, q 6 5 = (s : Int) := ⟨(q 6 5).toNat, by omega⟩
        have o1 := emL_out q h
        have fe : ∀ a k : Nat, ¬ (a = 6 ∧ k = 5) → ¬ (a = 0 ∧ q 6 5 ≤ (k : Int)) → (emL q h) a k = q a k := by
          intro a k k1 k2
          by_cases ha : a = 0
          · subst ha; exact emL_lo (by omega) (by omega)
          by_cases ha6 : a = 6
          · subst ha6; exact emL_s (by omega)
          · exact emL_a ha ha6
        refine rcV (as := [.inl (160 * oo + 40 * ii), .inl ((160 * oo + 40 * ii) + (h.length : Int))]) (rest := []) dm_Re_bring_62 lc_Re_emitRow lm_Re_43 li_Re_emitRow (nr rfl rfl) rfl rfl rfl (nl rfl) (re_emitRow (p := 160 * o + 40 * (j + 1)) r2 (by omega) (by omega) (by omega) (by omega)) ?_
        rintro _ _ ⟨rfl, rfl⟩
        show rX E _ 65 [some (.inr (some E.1.length)), some (.inl oo), some (.inl pf), some (.inl pe), some (.inl ii), some (.inl (160 * oo + 40 * ii)), some (.inl ((160 * oo + 40 * ii) + (h.length : Int))), some (.inl (q 6 5))] [] _ _
        refine rx (xs_aload_n dm_Re_bring_65 rfl) ?_
        refine rx (xs_iload dm_Re_bring_66 rfl) ?_
        have hyb1 : hyB (emL q h) x := ⟨hyR_fr hyb.1 (fun a k ht => fe a k (by unfold tch at ht; omega) (by unfold tch at ht; omega)), by rw [fe _ _ (by omega) (by omega)]; exact hyb.2⟩
        have hlk1 : lok (emL q h) := fun k hk => by rw [fe _ _ (by omega) (by omega)]; exact hlk k hk
        refine rcV (as := [.inl (q 6 5)]) (rest := []) dm_Re_bring_68 lc_Re_hypothesis lm_Re_73 li_Re_hypothesis (nr rfl rfl) rfl rfl rfl (nl rfl) (re_hypothesis (s := s) (l := h) hso (emL_sg (by omega) hso) (by omega) (by omega) (by omega) hhx hyb1 hxi hlk1) ?_
        rintro _ q2 ⟨rfl, hyb2, fr2, lk2⟩
        show rX E _ 71 [some (.inr (some E.1.length)), some (.inl oo), some (.inl pf), some (.inl pe), some (.inl ii), some (.inl (160 * oo + 40 * ii)), some (.inl ((160 * oo + 40 * ii) + (h.length : Int))), some (.inl (q 6 5))] [] _ _
        refine rx (xs_aload_n dm_Re_bring_71 rfl) ?_
        refine rx (xs_iload dm_Re_bring_72 rfl) ?_
        refine rx (rp 5 (by decide) dm_Re_bring_74 lp_Re_28 (x_ft_i _)) ?_
        refine rx (xs_iinc dm_Re_bring_77 rfl (by decide)) ?_
        show rX E _ 80 [some (.inr (some E.1.length)), some (.inl oo), some (.inl pf), some (.inl pe), some (.inl (ii + 1)), some (.inl (160 * oo + 40 * ii)), some (.inl ((160 * oo + 40 * ii) + (h.length : Int))), some (.inl (q 6 5))] [] _ _
        refine rx (xs_goto (tgt := 3) dm_Re_bring_80 rfl) ?_
        have g : ∀ a k : Nat, ¬ (a = 3 ∧ k = 28) → ¬ (a = 1 ∧ 113 ≤ k ∧ k ≤ 115) → ¬ (a = 0 ∧ 4520 ≤ k ∧ k < 4640) → ¬ (a = 6 ∧ k = 6) → ¬ (a = 0 ∧ q 6 5 ≤ (k : Int)) → (u3 q2 6 5 (q 6 5)) a k = q a k := by
          intro a k k1 k2 k3 k4 k5
          by_cases h65 : a = 6 ∧ k = 5
          · obtain ⟨e1, e2⟩ := h65
            subst e1; subst e2
            rw [u3_eq]
          · rw [u3_ne h65, fr2 a k k1 k2 k3 k4, fe a k h65 k5]
        have e5 : (u3 q2 6 5 (q 6 5)) 6 5 = q 6 5 := u3_eq _ _ _ _
        refine rxq (ih (j + 1) (u3 q2 6 5 (q 6 5)) (hin h x) _ _ _ _ (by omega) (by omega) (by omega) (hyR_fr hy (fun a k ht => g a k (by unfold tch at ht; omega) (by unfold tch at ht; omega) (by unfold tch at ht; omega) (by unfold tch at ht; omega) (by unfold tch at ht; omega))) (sg_mono hbl (fun k k1 k2 => g 0 k (by omega) (by omega) (by omega) (by omega) (by omega))) ⟨hyR_fr hyb2.1 (fun a k ht => u3_ne (by unfold tch at ht; omega)), by rw [u3_ne (by omega)]; exact hyb2.2⟩ (fun k hk => by rw [u3_ne (by omega)]; exact lk2 k hk) (hin_all hxi hhx) (by rw [e5]; exact h1) (by rw [e5]; exact h2)) ?_
        rintro _ q3 ⟨rfl, p1, p2, p3, p4⟩
        refine ⟨rfl, p1, fun a k k1 k2 k3 k4 k5 => ?_, p3, p4⟩
        rw [p2 a k k1 k2 k3 k4 (by rw [e5]; exact k5)]
        exact g a k k1 k2 k3 k4 k5
set_option maxHeartbeats 4000000 in
set_option maxRecDepth 100000 in
theorem re_bring {q : rS} {oo pf pe : Int} {o pb : Nat} {bl : List Int} {hs : List (List Int)} {x : List (List Int) × Bool} (hoo : oo = o) (ho : o < 28) (hpf : pf = pb) (hpe : pe = (pb : Int) + (bl.length : Int)) (hpb : pb + bl.length ≤ 4480) (hbi : irL bl) (hhi : ∀ h ∈ hs, irL h) (hy : hyR q o hs) (hbl : sg q pb bl) (hyb : hyB q x) (hlk : lok q) (hxi : ∀ h ∈ x.1, irL h) (h1 : 5200 ≤ q 6 5) (h2 : q 6 5 ≤ 9900) : rM mm_Re_bring [.inl oo, .inl pf, .inl pe] q (fun r q' => r = none ∧ hyB q' (brg bl x hs) ∧ frW q q' ∧ lok q' ∧ ∀ h ∈ (brg bl x hs).1, irL h) := by
  refine rm rfl (nl rfl) (fun E => ?_)
  show rX E _ 0 [some (.inr (some E.1.length)), some (.inl oo), some (.inl pf), some (.inl pe), none, none, none, none] [] _ _
  refine rx (xs_iconst dm_Re_bring_0) ?_
  refine rx (xs_istore dm_Re_bring_1 (by decide)) ?_
  show rX E _ 3 [some (.inr (some E.1.length)), some (.inl oo), some (.inl pf), some (.inl pe), some (.inl 1), none, none, none] [] _ _
  exact re_bring_l E hoo ho hpf hpe hpb hbi hhi (hs.length + 1) 0 q x _ _ _ _ (by omega) (by omega) rfl hy hbl hyb hlk hxi h1 h2
set_option maxHeartbeats 4000000 in
set_option maxRecDepth 100000 in
theorem re_done4 {q : rS} {n : Int} (hb : q 6 6 = 0 ∨ q 6 6 = 1) (hc : 0 ≤ q 6 4 ∧ q 6 4 ≤ 120) (h : q 6 6 = 1 ∨ q 6 4 = 120) : rM mm_Re_done [.inl n] q (fun r q' => r = some (.inl 4) ∧ q' = q) := by
  refine rm rfl (nl rfl) (fun E => ?_)
  show rX E _ 0 [some (.inr (some E.1.length)), some (.inl n)] [] _ _
  refine rx (xs_aload_n dm_Re_done_0 rfl) ?_
  refine rx (rg (v := .inl (q 6 6)) dm_Re_done_1 lf_Re_50 rfl) ?_
  refine xx_if_ne (tgt := 16) dm_Re_done_4 rfl (by unfold ir; omega) (fun hc => ?_) (fun hc => ?_)
  · change rX E _ 16 _ _ _ _
    refine rx (xs_iconst dm_Re_done_16) ?_
    exact rri dm_Re_done_17 rfl ⟨rfl, rfl⟩
  · change rX E _ 7 _ _ _ _
    refine rx (xs_aload_n dm_Re_done_7 rfl) ?_
    refine rx (rg (v := .inl (q 6 4)) dm_Re_done_8 lf_Re_76 rfl) ?_
    refine rx (xs_bipush dm_Re_done_11 (by decide)) ?_
    refine rx (xs_icmp_ne_f (tgt := 18) dm_Re_done_13 rfl (by unfold ir; omega) (by unfold ir; omega) (by omega)) ?_
    refine rx (xs_iconst dm_Re_done_16) ?_
    exact rri dm_Re_done_17 rfl ⟨rfl, rfl⟩
set_option maxHeartbeats 4000000 in
set_option maxRecDepth 100000 in
theorem re_done0 {q : rS} {n : Int} {p : Nat} (hb : q 6 6 = 0) (hc : 0 ≤ q 6 4 ∧ q 6 4 < 120) (hp : q 6 0 - n = (p : Int)) (hp2 : p < 12) (hlk : lok q) : rM mm_Re_done [.inl n] q (fun r q' => r = some (.inl 0) ∧ (∀ x, rOb q 28 x → rOb q' p x) ∧ q' 6 0 = (p : Int) + 1 ∧ q' 6 4 = q 6 4 + 1 ∧ (∀ a k, ¬ tch p a k → ¬ (a = 6 ∧ k = 0) → ¬ (a = 6 ∧ k = 4) → q' a k = q a k) ∧ lok q') := by
  refine rm rfl (nl rfl) (fun E => ?_)
  show rX E _ 0 [some (.inr (some E.1.length)), some (.inl n)] [] _ _
  refine rx (xs_aload_n dm_Re_done_0 rfl) ?_
  refine rx (rg (v := .inl (q 6 6)) dm_Re_done_1 lf_Re_50 rfl) ?_
  refine rx (xs_if_ne_f (tgt := 16) dm_Re_done_4 rfl (by unfold ir; omega) (by omega)) ?_
  refine rx (xs_aload_n dm_Re_done_7 rfl) ?_
  refine rx (rg (v := .inl (q 6 4)) dm_Re_done_8 lf_Re_76 rfl) ?_
  refine rx (xs_bipush dm_Re_done_11 (by decide)) ?_
  refine rx (xs_icmp_ne_t (tgt := 18) dm_Re_done_13 rfl (by unfold ir; omega) (by unfold ir; omega) (by omega)) ?_
  refine rx (xs_aload_n dm_Re_done_18 rfl) ?_
  refine rx (xs_dup dm_Re_done_19) ?_
  refine rx (rg (v := .inl (q 6 4)) dm_Re_done_20 lf_Re_76 rfl) ?_
  refine rx (xs_iconst dm_Re_done_23) ?_
  refine rx (xs_iadd dm_Re_done_24) ?_
  refine rx (rp 4 (by decide) dm_Re_done_25 lp_Re_76 (x_ft_i _)) ?_
  refine rx (xs_aload_n dm_Re_done_28 rfl) ?_
  refine rx (xs_dup dm_Re_done_29) ?_
  refine rx (rg (v := .inl ((u3 q 6 4 ((q 6 4) + 1)) 6 0)) dm_Re_done_30 lf_Re_79 rfl) ?_
  refine rx (xs_iload_n dm_Re_done_33 rfl) ?_
  refine rx (xs_isub dm_Re_done_34) ?_
  refine rx (rp 0 (by decide) dm_Re_done_35 lp_Re_79 (x_ft_i _)) ?_
  refine rx (xs_aload_n dm_Re_done_38 rfl) ?_
  refine rx (xs_bipush dm_Re_done_39 (by decide)) ?_
  refine rx (xs_aload_n dm_Re_done_41 rfl) ?_
  refine rx (rg (v := .inl ((u3 (u3 q 6 4 ((q 6 4) + 1)) 6 0 (((u3 q 6 4 ((q 6 4) + 1)) 6 0) - n)) 6 0)) dm_Re_done_42 lf_Re_79 rfl) ?_
  have g1 : ∀ a k, ¬ (a = 6 ∧ k = 0) → ¬ (a = 6 ∧ k = 4) → (u3 (u3 q 6 4 ((q 6 4) + 1)) 6 0 (((u3 q 6 4 ((q 6 4) + 1)) 6 0) - n)) a k = q a k := fun a k k1 k2 => by rw [u3_ne k1, u3_ne k2]
  have e0 : (u3 (u3 q 6 4 ((q 6 4) + 1)) 6 0 (((u3 q 6 4 ((q 6 4) + 1)) 6 0) - n)) 6 0 = (p : Int) := by rw [u3_eq, u3_ne (by omega)]; exact hp
  have e4 : (u3 (u3 q 6 4 ((q 6 4) + 1)) 6 0 (((u3 q 6 4 ((q 6 4) + 1)) 6 0) - n)) 6 4 = q 6 4 + 1 := by rw [u3_ne (by omega), u3_eq]
  generalize u3 (u3 q 6 4 ((q 6 4) + 1)) 6 0 (((u3 q 6 4 ((q 6 4) + 1)) 6 0) - n) = q1 at g1 e0 e4 ⊢
  refine rcV (as := [.inl 28, .inl (q1 6 0)]) (rest := []) dm_Re_done_45 lc_Re_copyObject lm_Re_82 li_Re_copyObject (nr rfl rfl) rfl rfl rfl (nl rfl) (re_copyObject (o := 28) (p := p) rfl e0 (by decide) (by omega) (by omega) (fun k hk => by rw [g1 _ _ (by omega) (by omega)]; exact hlk k hk)) ?_
  rintro _ q2 ⟨rfl, hcp, lk2⟩
  show rX E _ 48 [some (.inr (some E.1.length)), some (.inl n)] [] _ _
  refine rx (xs_aload_n dm_Re_done_48 rfl) ?_
  refine rx (xs_dup dm_Re_done_49) ?_
  refine rx (rg (v := .inl (q2 6 0)) dm_Re_done_50 lf_Re_79 rfl) ?_
  refine rx (xs_iconst dm_Re_done_53) ?_
  refine rx (xs_iadd dm_Re_done_54) ?_
  refine rx (rp 0 (by decide) dm_Re_done_55 lp_Re_79 (x_ft_i _)) ?_
  refine rx (xs_iconst dm_Re_done_58) ?_
  have e20 : q2 6 0 = (p : Int) := by rw [hcp.2.2.2 _ _ (by unfold tch; omega)]; exact e0
  refine rri dm_Re_done_59 rfl ⟨rfl, fun x hx => ?_, ?_, ?_, fun a k k1 k2 k3 => ?_, fun k hk => ?_⟩
  · exact rOb_fr (rOb_cp (rOb_fr hx (fun a k ht => g1 a k (by unfold tch at ht; omega) (by unfold tch at ht; omega))) hcp) (fun a k ht => u3_ne (by unfold tch at ht; omega))
  · rw [u3_eq, e20]
  · rw [u3_ne (by omega), hcp.2.2.2 _ _ (by unfold tch; omega)]; exact e4
  · rw [u3_ne k2, hcp.2.2.2 _ _ k1, g1 a k k2 k3]
  · rw [u3_ne (by omega)]; exact lk2 k hk
set_option maxHeartbeats 4000000 in
set_option maxRecDepth 100000 in
theorem re_fits0 {q : rS} {f x : Int} {pf px : Nat} {t1 a1 t2 a2 : List Int} (hs1 : sg q pf t1) (hs2 : sg q px t2) (ht1 : isTm [] t1 a1) (ht2 : isTm [] t2 a2) (hf : f = pf) (hx : x = px) (h0 : 0 ≤ q 6 5) (h1 : (pf : Int) + (t1.length : Int) ≤ q 6 5) (h2 : (px : Int) + (t2.length : Int) ≤ q 6 5) (h3 : t1.length ≤ 40) (h4 : t2.length ≤ 40) (h5 : q 6 5 + (a1.length : Int) + (a2.length : Int) ≤ 9000) (hn : ∀ c d, isTy c → ¬ a1 = 0 :: (c ++ d)) : rM mm_Re_fits [.inl f, .inl x] q (fun r q' => r = some (.inl 0) ∧ ∃ B, q' = wb (emL q (a1 ++ a2)) B) := by
  refine rm rfl (nl rfl) (fun E => ?_)
  obtain ⟨s, hso⟩ : ∃ s : Nat, q 6 5 = (s : Int) := ⟨(q 6 5).toNat, by omega⟩
  have o1 := emL_out q a1
  have hla := isTy_len (isTm_ty ht1)
  show rX E _ 0 [some (.inr (some E.1.length)), some (.inl f), some (.inl x), none, none, none, none, none, none] [] _ _
  refine rx (xs_aload_n dm_Re_fits_0 rfl) ?_
  refine rx (xs_iload_n dm_Re_fits_1 rfl) ?_
  refine rcV (as := [.inl f]) (rest := []) dm_Re_fits_2 lc_Re_typeOf lm_Re_106 li_Re_typeOf (nr rfl rfl) rfl rfl rfl (nl rfl) (re_typeOf hs1 ht1 hf h1 h3 (by omega)) ?_
  rintro _ q1 ⟨rfl, B1, hq1⟩
  have w1 : q1 6 5 = q 6 5 + (a1.length : Int) := by rw [hq1]; exact o1
  show rX E _ 5 [some (.inr (some E.1.length)), some (.inl f), some (.inl x), none, none, none, none, none, none] [.inl (q 6 5)] _ _
  refine rx (xs_istore_n dm_Re_fits_5 (by decide)) ?_
  show rX E _ 6 [some (.inr (some E.1.length)), some (.inl f), some (.inl x), some (.inl (q 6 5)), none, none, none, none, none] [] _ _
  refine rx (xs_aload_n dm_Re_fits_6 rfl) ?_
  refine rx (rg (v := .inl (q1 6 5)) dm_Re_fits_7 lf_Re_28 rfl) ?_
  refine rx (xs_istore dm_Re_fits_10 (by decide)) ?_
  show rX E _ 12 [some (.inr (some E.1.length)), some (.inl f), some (.inl x), some (.inl (q 6 5)), some (.inl (q1 6 5)), none, none, none, none] [] _ _
  refine rx (xs_aload_n dm_Re_fits_12 rfl) ?_
  refine rx (xs_iload_n dm_Re_fits_13 rfl) ?_
  have hs2' : sg q1 px t2 := by rw [hq1]; exact emL_sgo (by omega) hs2 (by omega)
  have o2 := emL_out q1 a2
  refine rcV (as := [.inl x]) (rest := []) dm_Re_fits_14 lc_Re_typeOf lm_Re_106 li_Re_typeOf (nr rfl rfl) rfl rfl rfl (nl rfl) (re_typeOf hs2' ht2 hx (by omega) h4 (by omega)) ?_
  rintro _ q2 ⟨rfl, B2, hq2⟩
  have w2 : q2 6 5 = q1 6 5 + (a2.length : Int) := by rw [hq2]; exact o2
  have hfin : q2 = wb (emL q (a1 ++ a2)) B2 := by rw [hq2, hq1, wb_emL, wb_wb, emL_app]
  have sA : sg q2 s a1 := by
    rw [hfin, emL_app]
    exact emL_sgo (by omega) (emL_sg (by omega) hso) (by omega)
  have sB : sg q2 (s + a1.length) a2 := by
    rw [hfin, emL_app]
    exact emL_sg (by omega) (by omega)
  show rX E _ 17 [some (.inr (some E.1.length)), some (.inl f), some (.inl x), some (.inl (q 6 5)), some (.inl (q1 6 5)), none, none, none, none] [.inl (q1 6 5)] _ _
  obtain ⟨y, hy⟩ : ∃ y, a1[0]? = some y := ⟨_, List.getElem?_eq_getElem hla⟩
  have hyi : ir y := isTy_ir (isTm_ty ht1) y (List.mem_of_getElem? hy)
  have hy0 : ¬ y = 0 := by
    rcases isTy_inv (isTm_ty ht1) with e | ⟨k, k1, k2, e⟩ | ⟨c, d, c1, d1, e⟩
    · subst e; simp at hy; omega
    · subst e; simp at hy; omega
    · exact absurd e (hn c d c1)
  refine rx (xs_istore dm_Re_fits_17 (by decide)) ?_
  show rX E _ 19 [some (.inr (some E.1.length)), some (.inl f), some (.inl x), some (.inl (q 6 5)), some (.inl (q1 6 5)), some (.inl (q1 6 5)), none, none, none] [] _ _
  refine rx (xs_aload_n dm_Re_fits_19 rfl) ?_
  refine rx (rg (v := .inl (q2 6 5)) dm_Re_fits_20 lf_Re_28 rfl) ?_
  refine rx (xs_istore dm_Re_fits_23 (by decide)) ?_
  show rX E _ 25 [some (.inr (some E.1.length)), some (.inl f), some (.inl x), some (.inl (q 6 5)), some (.inl (q1 6 5)), some (.inl (q1 6 5)), some (.inl (q2 6 5)), none, none] [] _ _
  refine rx (xs_aload_n dm_Re_fits_25 rfl) ?_
  refine rx (rg (v := .inr (some (rA E 0))) dm_Re_fits_26 lf_Re_7 rfl) ?_
  refine rx (xs_iload_n dm_Re_fits_29 rfl) ?_
  refine rx (rlv 0 y (by decide) dm_Re_fits_30 (by omega) (by show _ < ((10000 : Nat) : Int); omega) (by rw [show (q 6 5).toNat = s + 0 by omega]; exact sA 0 y hy)) ?_
  refine rx (xs_if_eq_f (tgt := 36) dm_Re_fits_31 rfl hyi hy0) ?_
  refine rx (xs_iconst dm_Re_fits_34) ?_
  exact rrz dm_Re_fits_35 rfl (Or.inl rfl) ⟨rfl, B2, hfin⟩
set_option maxHeartbeats 4000000 in
set_option maxRecDepth 100000 in
theorem re_fits1 {q : rS} {f x : Int} {pf px : Nat} {t1 a1 t2 a2 : List Int} (hs1 : sg q pf t1) (hs2 : sg q px t2) (ht1 : isTm [] t1 a1) (ht2 : isTm [] t2 a2) (hf : f = pf) (hx : x = px) (h0 : 0 ≤ q 6 5) (h1 : (pf : Int) + (t1.length : Int) ≤ q 6 5) (h2 : (px : Int) + (t2.length : Int) ≤ q 6 5) (h3 : t1.length ≤ 40) (h4 : t2.length ≤ 40) (h5 : q 6 5 + (a1.length : Int) + (a2.length : Int) ≤ 9000) {c d : List Int} (hc : isTy c) (hd : isTy d) (he : a1 = 0 :: (c ++ d)) : rM mm_Re_fits [.inl f, .inl x] q (fun r q' => r = some (.inl (if c = a2 then 1 else 0)) ∧ ∃ B, q' = u3 (u3 (wb (emL q (a1 ++ a2)) B) 6 7 (q 6 5 + 1 + (c.length : Int))) 6 8 (q 6 5 + (a1.length : Int))) := by
  refine rm rfl (nl rfl) (fun E => ?_)
  obtain ⟨s, hso⟩ : ∃ s : Nat, q 6 5 = (s : Int) := ⟨(q 6 5).toNat, by omega⟩
  have o1 := emL_out q a1
  have hla := isTy_len (isTm_ty ht1)
  show rX E _ 0 [some (.inr (some E.1.length)), some (.inl f), some (.inl x), none, none, none, none, none, none] [] _ _
  refine rx (xs_aload_n dm_Re_fits_0 rfl) ?_
  refine rx (xs_iload_n dm_Re_fits_1 rfl) ?_
  refine rcV (as := [.inl f]) (rest := []) dm_Re_fits_2 lc_Re_typeOf lm_Re_106 li_Re_typeOf (nr rfl rfl) rfl rfl rfl (nl rfl) (re_typeOf hs1 ht1 hf h1 h3 (by omega)) ?_
  rintro _ q1 ⟨rfl, B1, hq1⟩
  have w1 : q1 6 5 = q 6 5 + (a1.length : Int) := by rw [hq1]; exact o1
  show rX E _ 5 [some (.inr (some E.1.length)), some (.inl f), some (.inl x), none, none, none, none, none, none] [.inl (q 6 5)] _ _
  refine rx (xs_istore_n dm_Re_fits_5 (by decide)) ?_
  show rX E _ 6 [some (.inr (some E.1.length)), some (.inl f), some (.inl x), some (.inl (q 6 5)), none, none, none, none, none] [] _ _
  refine rx (xs_aload_n dm_Re_fits_6 rfl) ?_
  refine rx (rg (v := .inl (q1 6 5)) dm_Re_fits_7 lf_Re_28 rfl) ?_
  refine rx (xs_istore dm_Re_fits_10 (by decide)) ?_
  show rX E _ 12 [some (.inr (some E.1.length)), some (.inl f), some (.inl x), some (.inl (q 6 5)), some (.inl (q1 6 5)), none, none, none, none] [] _ _
  refine rx (xs_aload_n dm_Re_fits_12 rfl) ?_
  refine rx (xs_iload_n dm_Re_fits_13 rfl) ?_
  have hs2' : sg q1 px t2 := by rw [hq1]; exact emL_sgo (by omega) hs2 (by omega)
  have o2 := emL_out q1 a2
  refine rcV (as := [.inl x]) (rest := []) dm_Re_fits_14 lc_Re_typeOf lm_Re_106 li_Re_typeOf (nr rfl rfl) rfl rfl rfl (nl rfl) (re_typeOf hs2' ht2 hx (by omega) h4 (by omega)) ?_
  rintro _ q2 ⟨rfl, B2, hq2⟩
  have w2 : q2 6 5 = q1 6 5 + (a2.length : Int) := by rw [hq2]; exact o2
  have hfin : q2 = wb (emL q (a1 ++ a2)) B2 := by rw [hq2, hq1, wb_emL, wb_wb, emL_app]
  have sA : sg q2 s a1 := by
    rw [hfin, emL_app]
    exact emL_sgo (by omega) (emL_sg (by omega) hso) (by omega)
  have sB : sg q2 (s + a1.length) a2 := by
    rw [hfin, emL_app]
    exact emL_sg (by omega) (by omega)
  show rX E _ 17 [some (.inr (some E.1.length)), some (.inl f), some (.inl x), some (.inl (q 6 5)), some (.inl (q1 6 5)), none, none, none, none] [.inl (q1 6 5)] _ _
  have hsc : sg q2 (s + 1) c := by
    have h9 := sA
    rw [he] at h9
    exact (sg_app.mp (sg_tl h9)).1
  have hll : a1.length = 1 + c.length + d.length := by rw [he]; simp; omega
  refine rx (xs_istore dm_Re_fits_17 (by decide)) ?_
  show rX E _ 19 [some (.inr (some E.1.length)), some (.inl f), some (.inl x), some (.inl (q 6 5)), some (.inl (q1 6 5)), some (.inl (q1 6 5)), none, none, none] [] _ _
  refine rx (xs_aload_n dm_Re_fits_19 rfl) ?_
  refine rx (rg (v := .inl (q2 6 5)) dm_Re_fits_20 lf_Re_28 rfl) ?_
  refine rx (xs_istore dm_Re_fits_23 (by decide)) ?_
  show rX E _ 25 [some (.inr (some E.1.length)), some (.inl f), some (.inl x), some (.inl (q 6 5)), some (.inl (q1 6 5)), some (.inl (q1 6 5)), some (.inl (q2 6 5)), none, none] [] _ _
  refine rx (xs_aload_n dm_Re_fits_25 rfl) ?_
  refine rx (rg (v := .inr (some (rA E 0))) dm_Re_fits_26 lf_Re_7 rfl) ?_
  refine rx (xs_iload_n dm_Re_fits_29 rfl) ?_
  refine rx (rlv 0 0 (by decide) dm_Re_fits_30 (by omega) (by show _ < ((10000 : Nat) : Int); omega) (by rw [show (q 6 5).toNat = s + 0 by omega]; exact sA 0 0 (by rw [he]; rfl))) ?_
  refine rx (xs_if_eq_t (tgt := 36) dm_Re_fits_31 rfl (by unfold ir; omega) rfl) ?_
  refine rx (xs_aload_n dm_Re_fits_36 rfl) ?_
  refine rx (xs_iload_n dm_Re_fits_37 rfl) ?_
  refine rx (xs_iconst dm_Re_fits_38) ?_
  refine rx (xs_iadd dm_Re_fits_39) ?_
  refine rcV (as := [.inl ((q 6 5) + 1)]) (rest := []) dm_Re_fits_40 lc_Re_skipType lm_Re_36 li_Re_skipType (nr rfl rfl) rfl rfl rfl (nl rfl) (re_skipType (p := s + 1) hsc hc (by omega) (by omega)) ?_
  rintro _ q1 ⟨rfl, hq1⟩
  have hq1 := hq1.symm
  subst hq1
  show rX E _ 43 [some (.inr (some E.1.length)), some (.inl f), some (.inl x), some (.inl (q 6 5)), some (.inl (q1 6 5)), some (.inl (q1 6 5)), some (.inl (q2 6 5)), none, none] [.inl (((s + 1 : Nat) : Int) + (c.length : Int))] _ _
  refine rx (xs_istore dm_Re_fits_43 (by decide)) ?_
  show rX E _ 45 [some (.inr (some E.1.length)), some (.inl f), some (.inl x), some (.inl (q 6 5)), some (.inl (q1 6 5)), some (.inl (q1 6 5)), some (.inl (q2 6 5)), some (.inl (((s + 1 : Nat) : Int) + (c.length : Int))), none] [] _ _
  refine rx (xs_aload_n dm_Re_fits_45 rfl) ?_
  refine rx (xs_iload_n dm_Re_fits_46 rfl) ?_
  refine rx (xs_iconst dm_Re_fits_47) ?_
  refine rx (xs_iadd dm_Re_fits_48) ?_
  refine rx (xs_iload dm_Re_fits_49 rfl) ?_
  refine rx (xs_iload dm_Re_fits_51 rfl) ?_
  refine rx (xs_iload dm_Re_fits_53 rfl) ?_
  refine rcV (as := [.inl ((q 6 5) + 1), .inl (((s + 1 : Nat) : Int) + (c.length : Int)), .inl (q1 6 5), .inl (q2 6 5)]) (rest := []) dm_Re_fits_55 lc_Re_sameRow lm_Re_69 li_Re_sameRow (nr rfl rfl) rfl rfl rfl (nl rfl) (re_sameRow (p := s + 1) (p2 := s + a1.length) hsc sB (by omega) rfl (by omega) (by omega) (by omega) (by omega) (isTy_ir hc) (isTy_ir (isTm_ty ht2))) ?_
  rintro _ q1 ⟨rfl, hq1⟩
  have hq1 := hq1.symm
  subst hq1
  show rX E _ 58 [some (.inr (some E.1.length)), some (.inl f), some (.inl x), some (.inl (q 6 5)), some (.inl (q1 6 5)), some (.inl (q1 6 5)), some (.inl (q2 6 5)), some (.inl (((s + 1 : Nat) : Int) + (c.length : Int))), none] [.inl (if c = a2 then 1 else 0)] _ _
  refine rx (xs_istore dm_Re_fits_58 (by decide)) ?_
  show rX E _ 60 [some (.inr (some E.1.length)), some (.inl f), some (.inl x), some (.inl (q 6 5)), some (.inl (q1 6 5)), some (.inl (q1 6 5)), some (.inl (q2 6 5)), some (.inl (((s + 1 : Nat) : Int) + (c.length : Int))), some (.inl (if c = a2 then 1 else 0))] [] _ _
  refine rx (xs_aload_n dm_Re_fits_60 rfl) ?_
  refine rx (xs_iload dm_Re_fits_61 rfl) ?_
  refine rx (rp 7 (by decide) dm_Re_fits_63 lp_Re_109 (x_ft_i _)) ?_
  refine rx (xs_aload_n dm_Re_fits_66 rfl) ?_
  refine rx (xs_iload dm_Re_fits_67 rfl) ?_
  refine rx (rp 8 (by decide) dm_Re_fits_69 lp_Re_112 (x_ft_i _)) ?_
  refine rx (xs_iload dm_Re_fits_72 rfl) ?_
  exact rrz dm_Re_fits_74 rfl (by split <;> simp) ⟨rfl, B2, by rw [hfin, w1, show ((s + 1 : Nat) : Int) + (c.length : Int) = q 6 5 + 1 + (c.length : Int) by omega]⟩
set_option maxHeartbeats 4000000 in
set_option maxRecDepth 100000 in
theorem re_applied {q : rS} {f g ge x ye : Int} {pf px : Nat} {lf rf lx rz d b : List Int} {pd : Nat} (hlf : sg q pf lf) (hrf : sg q (pf + lf.length) rf) (hlx : sg q px lx) (hrx : sg q (px + lx.length) rz) (hd : sg q pd d) (htx : isTm [] lx b) (hf : f = pf) (hg : g = (pf : Int) + (lf.length : Int)) (hge : ge = (pf : Int) + (lf.length : Int) + (rf.length : Int)) (hx : x = px) (hye : ye = (px : Int) + (lx.length : Int) + (rz.length : Int)) (h7 : q 6 7 = pd) (h8 : q 6 8 = (pd : Int) + (d.length : Int)) (k1 : ge ≤ q 6 5) (k2 : ye ≤ q 6 5) (k3 : (pd : Int) + (d.length : Int) ≤ q 6 5) (k4 : q 6 5 + (d.length : Int) + (lf.length : Int) + (rf.length : Int) + (lx.length : Int) + (rz.length : Int) ≤ 9000) : rM mm_Re_applied [.inl f, .inl g, .inl ge, .inl x, .inl ye] q (fun r q' => r = none ∧ q' = emL q (12 :: 12 :: 11 :: 0 :: (d ++ (12 :: (lf ++ lx) ++ (12 :: (rf ++ rz)))))) := by
  refine rm rfl (nl rfl) (fun E => ?_)
  show rX E _ 0 [some (.inr (some E.1.length)), some (.inl f), some (.inl g), some (.inl ge), some (.inl x), some (.inl ye), none] [] _ _
  refine rx (xs_aload_n dm_Re_applied_0 rfl) ?_
  refine rx (xs_iload dm_Re_applied_1 rfl) ?_
  refine rcV (as := [.inl x]) (rest := []) dm_Re_applied_3 lc_Re_skipTerm lm_Re_40 li_Re_skipTerm (nr rfl rfl) rfl rfl rfl (nl rfl) (re_skipTerm hlx htx hx (by omega) (by simp)) ?_
  rintro _ q1 ⟨rfl, hq1⟩
  have hq1 := hq1.symm
  subst hq1
  show rX E _ 6 [some (.inr (some E.1.length)), some (.inl f), some (.inl g), some (.inl ge), some (.inl x), some (.inl ye), none] [.inl ((px : Int) + (lx.length : Int))] _ _
  refine rx (xs_istore dm_Re_applied_6 (by decide)) ?_
  show rX E _ 8 [some (.inr (some E.1.length)), some (.inl f), some (.inl g), some (.inl ge), some (.inl x), some (.inl ye), some (.inl ((px : Int) + (lx.length : Int)))] [] _ _
  refine rx (xs_aload_n dm_Re_applied_8 rfl) ?_
  refine rx (xs_aload_n dm_Re_applied_9 rfl) ?_
  refine rx (rg (v := .inl (q 6 7)) dm_Re_applied_10 lf_Re_109 rfl) ?_
  refine rx (xs_aload_n dm_Re_applied_13 rfl) ?_
  refine rx (rg (v := .inl (q 6 8)) dm_Re_applied_14 lf_Re_112 rfl) ?_
  have e1 := emL_out q (12 :: 12 :: 11 :: 0 :: d)
  simp only [List.length_cons] at e1
  have kp : ∀ (l : List Int) (q1 : rS) (p : Nat) (v : List Int), 0 ≤ q1 6 5 → sg q1 p v → (p : Int) + (v.length : Int) ≤ q1 6 5 → sg (emL q1 l) p v := fun l q1 p v a b c => emL_sgo a b c
  refine rcV (as := [.inl (q 6 7), .inl (q 6 8)]) (rest := []) dm_Re_applied_17 lc_Re_beginEquation lm_Re_143 li_Re_beginEquation (nr rfl rfl) rfl rfl rfl (nl rfl) (re_beginEquation hd h7 h8 (by omega) (by omega)) ?_
  rintro _ _ ⟨rfl, rfl⟩
  show rX E _ 20 [some (.inr (some E.1.length)), some (.inl f), some (.inl g), some (.inl ge), some (.inl x), some (.inl ye), some (.inl ((px : Int) + (lx.length : Int)))] [] _ _
  refine rx (xs_aload_n dm_Re_applied_20 rfl) ?_
  refine rx (xs_bipush dm_Re_applied_21 (by decide)) ?_
  have e2 := em_out (emL q (12 :: 12 :: 11 :: 0 :: d)) 12
  refine rcV (as := [.inl 12]) (rest := []) dm_Re_applied_23 lc_Re_emit lm_Re_32 li_Re_emit (nr rfl rfl) rfl rfl rfl (nl rfl) (re_emit (x := 12) (by omega) (by omega)) ?_
  rintro _ _ ⟨rfl, rfl⟩
  show rX E _ 26 [some (.inr (some E.1.length)), some (.inl f), some (.inl g), some (.inl ge), some (.inl x), some (.inl ye), some (.inl ((px : Int) + (lx.length : Int)))] [] _ _
  refine rx (xs_aload_n dm_Re_applied_26 rfl) ?_
  refine rx (xs_iload_n dm_Re_applied_27 rfl) ?_
  refine rx (xs_iload_n dm_Re_applied_28 rfl) ?_
  have e3 := emL_out (em (emL q (12 :: 12 :: 11 :: 0 :: d)) 12) lf
  have c1 := kp [12] _ _ _ (by omega) (kp (12 :: 12 :: 11 :: 0 :: d) _ _ _ (by omega) hlf (by omega)) (by omega)
  have c2 := kp [12] _ _ _ (by omega) (kp (12 :: 12 :: 11 :: 0 :: d) _ _ _ (by omega) hlx (by omega)) (by omega)
  have c3 := kp [12] _ _ _ (by omega) (kp (12 :: 12 :: 11 :: 0 :: d) _ _ _ (by omega) hrf (by omega)) (by omega)
  have c4 := kp [12] _ _ _ (by omega) (kp (12 :: 12 :: 11 :: 0 :: d) _ _ _ (by omega) hrx (by omega)) (by omega)
  refine rcV (as := [.inl f, .inl g]) (rest := []) dm_Re_applied_29 lc_Re_emitRow lm_Re_43 li_Re_emitRow (nr rfl rfl) rfl rfl rfl (nl rfl) (re_emitRow (l := lf) c1 hf hg (by omega) (by omega)) ?_
  rintro _ _ ⟨rfl, rfl⟩
  show rX E _ 32 [some (.inr (some E.1.length)), some (.inl f), some (.inl g), some (.inl ge), some (.inl x), some (.inl ye), some (.inl ((px : Int) + (lx.length : Int)))] [] _ _
  refine rx (xs_aload_n dm_Re_applied_32 rfl) ?_
  refine rx (xs_iload dm_Re_applied_33 rfl) ?_
  refine rx (xs_iload dm_Re_applied_35 rfl) ?_
  have e4 := emL_out (emL (em (emL q (12 :: 12 :: 11 :: 0 :: d)) 12) lf) lx
  have c5 := kp lf (em (emL q (12 :: 12 :: 11 :: 0 :: d)) 12) _ _ (by omega) c2 (by omega)
  have c6 := kp lf (em (emL q (12 :: 12 :: 11 :: 0 :: d)) 12) _ _ (by omega) c3 (by omega)
  have c7 := kp lf (em (emL q (12 :: 12 :: 11 :: 0 :: d)) 12) _ _ (by omega) c4 (by omega)
  refine rcV (as := [.inl x, .inl ((px : Int) + (lx.length : Int))]) (rest := []) dm_Re_applied_37 lc_Re_emitRow lm_Re_43 li_Re_emitRow (nr rfl rfl) rfl rfl rfl (nl rfl) (re_emitRow (l := lx) c5 hx rfl (by omega) (by omega)) ?_
  rintro _ _ ⟨rfl, rfl⟩
  show rX E _ 40 [some (.inr (some E.1.length)), some (.inl f), some (.inl g), some (.inl ge), some (.inl x), some (.inl ye), some (.inl ((px : Int) + (lx.length : Int)))] [] _ _
  refine rx (xs_aload_n dm_Re_applied_40 rfl) ?_
  refine rx (xs_bipush dm_Re_applied_41 (by decide)) ?_
  have e5 := em_out (emL (emL (em (emL q (12 :: 12 :: 11 :: 0 :: d)) 12) lf) lx) 12
  have c8 := kp [12] (emL (emL (em (emL q (12 :: 12 :: 11 :: 0 :: d)) 12) lf) lx) _ _ (by omega) (kp lx (emL (em (emL q (12 :: 12 :: 11 :: 0 :: d)) 12) lf) _ _ (by omega) c6 (by omega)) (by omega)
  have c9 := kp [12] (emL (emL (em (emL q (12 :: 12 :: 11 :: 0 :: d)) 12) lf) lx) _ _ (by omega) (kp lx (emL (em (emL q (12 :: 12 :: 11 :: 0 :: d)) 12) lf) _ _ (by omega) c7 (by omega)) (by omega)
  refine rcV (as := [.inl 12]) (rest := []) dm_Re_applied_43 lc_Re_emit lm_Re_32 li_Re_emit (nr rfl rfl) rfl rfl rfl (nl rfl) (re_emit (x := 12) (by omega) (by omega)) ?_
  rintro _ _ ⟨rfl, rfl⟩
  show rX E _ 46 [some (.inr (some E.1.length)), some (.inl f), some (.inl g), some (.inl ge), some (.inl x), some (.inl ye), some (.inl ((px : Int) + (lx.length : Int)))] [] _ _
  refine rx (xs_aload_n dm_Re_applied_46 rfl) ?_
  refine rx (xs_iload_n dm_Re_applied_47 rfl) ?_
  refine rx (xs_iload_n dm_Re_applied_48 rfl) ?_
  have e6 := emL_out (em (emL (emL (em (emL q (12 :: 12 :: 11 :: 0 :: d)) 12) lf) lx) 12) rf
  have c10 := kp rf (em (emL (emL (em (emL q (12 :: 12 :: 11 :: 0 :: d)) 12) lf) lx) 12) _ _ (by omega) c9 (by omega)
  refine rcV (as := [.inl g, .inl ge]) (rest := []) dm_Re_applied_49 lc_Re_emitRow lm_Re_43 li_Re_emitRow (nr rfl rfl) rfl rfl rfl (nl rfl) (re_emitRow (l := rf) c8 (by omega) (by omega) (by omega) (by omega)) ?_
  rintro _ _ ⟨rfl, rfl⟩
  show rX E _ 52 [some (.inr (some E.1.length)), some (.inl f), some (.inl g), some (.inl ge), some (.inl x), some (.inl ye), some (.inl ((px : Int) + (lx.length : Int)))] [] _ _
  refine rx (xs_aload_n dm_Re_applied_52 rfl) ?_
  refine rx (xs_iload dm_Re_applied_53 rfl) ?_
  refine rx (xs_iload dm_Re_applied_55 rfl) ?_
  refine rcV (as := [.inl ((px : Int) + (lx.length : Int)), .inl ye]) (rest := []) dm_Re_applied_57 lc_Re_emitRow lm_Re_43 li_Re_emitRow (nr rfl rfl) rfl rfl rfl (nl rfl) (re_emitRow (l := rz) c10 (by omega) (by omega) (by omega) (by omega)) ?_
  rintro _ _ ⟨rfl, rfl⟩
  show rX E _ 60 [some (.inr (some E.1.length)), some (.inl f), some (.inl g), some (.inl ge), some (.inl x), some (.inl ye), some (.inl ((px : Int) + (lx.length : Int)))] [] _ _
  exact rrv dm_Re_applied_60 rfl ⟨rfl, by simp [emL]⟩
