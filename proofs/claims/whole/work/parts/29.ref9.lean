/-! rows moved, objects copied -/
def cpF (q : rS) (d s n : Nat) : rS := fun a k => if a = 0 ∧ d ≤ k ∧ k < d + n then q 0 (s + (k - d)) else q a k
theorem cpF_0 (q : rS) (d s : Nat) : cpF q d s 0 = q := by
  funext a k
  unfold cpF
  rw [if_neg (by omega)]
theorem cpF_s (q : rS) (d s n : Nat) (h : s + n < d ∨ d + n ≤ s) : u3 (cpF q d s n) 0 (d + n) ((cpF q d s n) 0 (s + n)) = cpF q d s (n + 1) := by
  have e : (cpF q d s n) 0 (s + n) = q 0 (s + n) := by
    unfold cpF
    rw [if_neg (by omega)]
  rw [e]
  funext a k
  unfold u3 cpF
  by_cases h1 : a = 0 ∧ k = d + n
  · rw [if_pos h1, if_pos (by omega)]
    obtain ⟨-, h2⟩ := h1
    congr 1
    omega
  · rw [if_neg h1]
    by_cases h2 : a = 0 ∧ d ≤ k ∧ k < d + n
    · rw [if_pos h2, if_pos (by omega)]
    · rw [if_neg h2, if_neg (by omega)]
theorem cpF_in {q : rS} {d s n k : Nat} (h : k < n) : (cpF q d s n) 0 (d + k) = q 0 (s + k) := by
  unfold cpF
  rw [if_pos (by omega)]
  congr 1
  omega
theorem cpF_out {q : rS} {d s n a k : Nat} (h : ¬ (a = 0 ∧ d ≤ k ∧ k < d + n)) : (cpF q d s n) a k = q a k := by
  unfold cpF
  rw [if_neg h]
/-- the order of two rows, by their first difference -/
def cm : List Int → List Int → Int
  | [], _ => 0
  | _ :: _, [] => 0
  | x :: a, y :: b => if x = y then cm a b else if x < y then -1 else 1
set_option maxHeartbeats 4000000 in
set_option maxRecDepth 100000 in
theorem re_compare_l {q : rS} {p p2 : Nat} {pe be : Int} (E : rE) (a : List Int) : ∀ (b : List Int) (k : Nat) (kk : Int), kk = k → sg q (p + k) a → sg q (p2 + k) b → (p : Int) + k + a.length = pe → (p2 : Int) + k + b.length = be → p2 + k + b.length ≤ 10000 → p + k + a.length ≤ 10000 → (∀ x ∈ a, ir x) → (∀ x ∈ b, ir x) → rX E mm_Re_compare 3 [some (.inr (some E.1.length)), some (.inl (p : Int)), some (.inl pe), some (.inl (p2 : Int)), some (.inl be), some (.inl kk)] [] q (fun r q' => r = some (.inl (cm a b)) ∧ q' = q) := by
  induction a with
  | nil =>
    intro b k kk hkk ha hb he he2 h5 h6 hia hib
    simp at he
    refine rx (xs_iload_n dm_Re_compare_3 rfl) ?_
    refine rx (xs_iload dm_Re_compare_4 rfl) ?_
    refine rx (xs_iadd dm_Re_compare_6) ?_
    refine rx (xs_iload_n dm_Re_compare_7 rfl) ?_
    refine rx (xs_icmp_ge_t (tgt := 74) dm_Re_compare_8 rfl (by unfold ir; omega) (by unfold ir; omega) (by omega)) ?_
    refine rx (xs_iconst dm_Re_compare_74) ?_
    exact rri dm_Re_compare_75 rfl ⟨rfl, rfl⟩
  | cons x a ih =>
    intro b k kk hkk ha hb he he2 h5 h6 hia hib
    simp only [List.length_cons] at he h6
    have i1 : ir x := hia x List.mem_cons_self
    cases b with
    | nil =>
      simp at he2
      refine rx (xs_iload_n dm_Re_compare_3 rfl) ?_
      refine rx (xs_iload dm_Re_compare_4 rfl) ?_
      refine rx (xs_iadd dm_Re_compare_6) ?_
      refine rx (xs_iload_n dm_Re_compare_7 rfl) ?_
      refine rx (xs_icmp_ge_f (tgt := 74) dm_Re_compare_8 rfl (by unfold ir; omega) (by unfold ir; omega) (by omega)) ?_
      refine rx (xs_iload_n dm_Re_compare_11 rfl) ?_
      refine rx (xs_iload dm_Re_compare_12 rfl) ?_
      refine rx (xs_iadd dm_Re_compare_14) ?_
      refine rx (xs_iload dm_Re_compare_15 rfl) ?_
      refine rx (xs_icmp_ge_t (tgt := 74) dm_Re_compare_17 rfl (by unfold ir; omega) (by unfold ir; omega) (by omega)) ?_
      refine rx (xs_iconst dm_Re_compare_74) ?_
      exact rri dm_Re_compare_75 rfl ⟨rfl, rfl⟩
    | cons x2 b =>
      simp only [List.length_cons] at he2 h5
      have i2 : ir x2 := hib x2 List.mem_cons_self
      refine rx (xs_iload_n dm_Re_compare_3 rfl) ?_
      refine rx (xs_iload dm_Re_compare_4 rfl) ?_
      refine rx (xs_iadd dm_Re_compare_6) ?_
      refine rx (xs_iload_n dm_Re_compare_7 rfl) ?_
      refine rx (xs_icmp_ge_f (tgt := 74) dm_Re_compare_8 rfl (by unfold ir; omega) (by unfold ir; omega) (by omega)) ?_
      refine rx (xs_iload_n dm_Re_compare_11 rfl) ?_
      refine rx (xs_iload dm_Re_compare_12 rfl) ?_
      refine rx (xs_iadd dm_Re_compare_14) ?_
      refine rx (xs_iload dm_Re_compare_15 rfl) ?_
      refine rx (xs_icmp_ge_f (tgt := 74) dm_Re_compare_17 rfl (by unfold ir; omega) (by unfold ir; omega) (by omega)) ?_
      refine rx (xs_aload_n dm_Re_compare_20 rfl) ?_
      refine rx (rg (v := .inr (some (rA E 0))) dm_Re_compare_21 lf_Re_7 rfl) ?_
      refine rx (xs_iload_n dm_Re_compare_24 rfl) ?_
      refine rx (xs_iload dm_Re_compare_25 rfl) ?_
      refine rx (xs_iadd dm_Re_compare_27) ?_
      refine rx (rlv 0 x (by decide) dm_Re_compare_28 (by omega) (by show _ < ((10000 : Nat) : Int); omega) (by rw [show ((p : Int) + kk).toNat = p + k by omega]; exact sg_hd ha)) ?_
      refine rx (xs_aload_n dm_Re_compare_29 rfl) ?_
      refine rx (rg (v := .inr (some (rA E 0))) dm_Re_compare_30 lf_Re_7 rfl) ?_
      refine rx (xs_iload_n dm_Re_compare_33 rfl) ?_
      refine rx (xs_iload dm_Re_compare_34 rfl) ?_
      refine rx (xs_iadd dm_Re_compare_36) ?_
      refine rx (rlv 0 x2 (by decide) dm_Re_compare_37 (by omega) (by show _ < ((10000 : Nat) : Int); omega) (by rw [show ((p2 : Int) + kk).toNat = p2 + k by omega]; exact sg_hd hb)) ?_
      refine xx_icmp_eq (tgt := 68) dm_Re_compare_38 rfl i1 i2 (fun hc => ?_) (fun hc => ?_)
      · change rX E _ 68 _ _ _ _
        refine rx (xs_iinc dm_Re_compare_68 rfl (by decide)) ?_
        show rX E _ 71 [some (.inr (some E.1.length)), some (.inl (p : Int)), some (.inl pe), some (.inl (p2 : Int)), some (.inl be), some (.inl (kk + 1))] [] _ _
        refine rx (xs_goto (tgt := 3) dm_Re_compare_71 rfl) ?_
        refine rxq (ih b (k + 1) _ (by omega) (sg_tl ha) (sg_tl hb) (by omega) (by omega) (by omega) (by omega) (fun z hz => hia z (List.mem_cons_of_mem _ hz)) (fun z hz => hib z (List.mem_cons_of_mem _ hz))) ?_
        rintro _ _ ⟨rfl, rfl⟩
        exact ⟨by rw [cm, if_pos hc], rfl⟩
      · change rX E _ 41 _ _ _ _
        refine rx (xs_aload_n dm_Re_compare_41 rfl) ?_
        refine rx (rg (v := .inr (some (rA E 0))) dm_Re_compare_42 lf_Re_7 rfl) ?_
        refine rx (xs_iload_n dm_Re_compare_45 rfl) ?_
        refine rx (xs_iload dm_Re_compare_46 rfl) ?_
        refine rx (xs_iadd dm_Re_compare_48) ?_
        refine rx (rlv 0 x (by decide) dm_Re_compare_49 (by omega) (by show _ < ((10000 : Nat) : Int); omega) (by rw [show ((p : Int) + kk).toNat = p + k by omega]; exact sg_hd ha)) ?_
        refine rx (xs_aload_n dm_Re_compare_50 rfl) ?_
        refine rx (rg (v := .inr (some (rA E 0))) dm_Re_compare_51 lf_Re_7 rfl) ?_
        refine rx (xs_iload_n dm_Re_compare_54 rfl) ?_
        refine rx (xs_iload dm_Re_compare_55 rfl) ?_
        refine rx (xs_iadd dm_Re_compare_57) ?_
        refine rx (rlv 0 x2 (by decide) dm_Re_compare_58 (by omega) (by show _ < ((10000 : Nat) : Int); omega) (by rw [show ((p2 : Int) + kk).toNat = p2 + k by omega]; exact sg_hd hb)) ?_
        refine xx_icmp_ge (tgt := 66) dm_Re_compare_59 rfl i1 i2 (fun hc2 => ?_) (fun hc2 => ?_)
        · change rX E _ 66 _ _ _ _
          refine rx (xs_iconst dm_Re_compare_66) ?_
          exact rri dm_Re_compare_67 rfl ⟨vi (by rw [cm, if_neg hc, if_neg (by omega)]), rfl⟩
        · change rX E _ 62 _ _ _ _
          refine rx (xs_iconst dm_Re_compare_62) ?_
          refine rx (xs_goto (tgt := 67) dm_Re_compare_63 rfl) ?_
          exact rri dm_Re_compare_67 rfl ⟨vi (by rw [cm, if_neg hc, if_pos (by omega)]), rfl⟩
set_option maxHeartbeats 4000000 in
set_option maxRecDepth 100000 in
theorem re_compare {q : rS} {p p2 : Nat} {fa pe fb be : Int} {a b : List Int} (ha : sg q p a) (hb : sg q p2 b) (h1 : fa = p) (h2 : pe = (p : Int) + a.length) (h3 : fb = p2) (h4 : be = (p2 : Int) + b.length) (h5 : p + a.length ≤ 10000) (h6 : p2 + b.length ≤ 10000) (hia : ∀ x ∈ a, ir x) (hib : ∀ x ∈ b, ir x) : rM mm_Re_compare [.inl fa, .inl pe, .inl fb, .inl be] q (fun r q' => r = some (.inl (cm a b)) ∧ q' = q) := by
  refine rm rfl (nl rfl) (fun E => ?_)
  subst h1
  subst h3
  show rX E _ 0 [some (.inr (some E.1.length)), some (.inl (p : Int)), some (.inl pe), some (.inl (p2 : Int)), some (.inl be), none] [] _ _
  refine rx (xs_iconst dm_Re_compare_0) ?_
  refine rx (xs_istore dm_Re_compare_1 (by decide)) ?_
  show rX E _ 3 [some (.inr (some E.1.length)), some (.inl (p : Int)), some (.inl pe), some (.inl (p2 : Int)), some (.inl be), some (.inl 0)] [] _ _
  exact re_compare_l E a b 0 _ rfl ha hb (by omega) (by omega) (by omega) (by omega) hia hib
set_option maxHeartbeats 4000000 in
set_option maxRecDepth 100000 in
theorem re_part_l {ii ss nn dd : Int} {d s n i : Nat} (E : rE) (q0 : rS) (hd : dd = d) (hs : ss = s) (hn : nn = n) (hii : ii = i) (hi : i < 4) (hds : d + n ≤ s) (hs1 : s + n ≤ 10000) : ∀ (N k : Nat) (q : rS) (kk : Int), n - k < N → k ≤ n → kk = k → q = cpF q0 d s k → rX E mm_Re_part 32 [some (.inr (some E.1.length)), some (.inl ii), some (.inl ss), some (.inl nn), some (.inl dd), some (.inl kk)] [] q (fun r q' => r = none ∧ q' = u3 (cpF q0 d s n) 1 (112 + i) n) := by
  intro N
  induction N with
  | zero => intro k q kk hN; omega
  | succ N ih =>
    intro k q kk hN hk hkk hq
    by_cases hkn : k = n
    · subst hkn
      subst hq
      refine rx (xs_iload dm_Re_part_32 rfl) ?_
      refine rx (xs_iload_n dm_Re_part_34 rfl) ?_
      refine rx (xs_icmp_ge_t (tgt := 63) dm_Re_part_35 rfl (by unfold ir; omega) (by unfold ir; omega) (by omega)) ?_
      refine rx (xs_aload_n dm_Re_part_63 rfl) ?_
      refine rx (rg (v := .inr (some (rA E 1))) dm_Re_part_64 lf_Re_13 rfl) ?_
      refine rx (xs_bipush dm_Re_part_67 (by decide)) ?_
      refine rx (xs_iload_n dm_Re_part_69 rfl) ?_
      refine rx (xs_iadd dm_Re_part_70) ?_
      refine rx (xs_iload_n dm_Re_part_71 rfl) ?_
      refine rx (rtn 1 (112 + i) (by decide) dm_Re_part_72 (by omega) (by show _ < ((120 : Nat) : Int); omega) (by omega)) ?_
      exact rrv dm_Re_part_73 rfl ⟨rfl, by rw [hn]⟩
    · refine rx (xs_iload dm_Re_part_32 rfl) ?_
      refine rx (xs_iload_n dm_Re_part_34 rfl) ?_
      refine rx (xs_icmp_ge_f (tgt := 63) dm_Re_part_35 rfl (by unfold ir; omega) (by unfold ir; omega) (by omega)) ?_
      refine rx (xs_aload_n dm_Re_part_38 rfl) ?_
      refine rx (rg (v := .inr (some (rA E 0))) dm_Re_part_39 lf_Re_7 rfl) ?_
      refine rx (xs_iload dm_Re_part_42 rfl) ?_
      refine rx (xs_iload dm_Re_part_44 rfl) ?_
      refine rx (xs_iadd dm_Re_part_46) ?_
      refine rx (xs_aload_n dm_Re_part_47 rfl) ?_
      refine rx (rg (v := .inr (some (rA E 0))) dm_Re_part_48 lf_Re_7 rfl) ?_
      refine rx (xs_iload_n dm_Re_part_51 rfl) ?_
      refine rx (xs_iload dm_Re_part_52 rfl) ?_
      refine rx (xs_iadd dm_Re_part_54) ?_
      refine rx (rlv 0 (q 0 (s + k)) (by decide) dm_Re_part_55 (by omega) (by show _ < ((10000 : Nat) : Int); omega) (by rw [show (ss + kk).toNat = s + k by omega])) ?_
      refine rx (rtn 0 (d + k) (by decide) dm_Re_part_56 (by omega) (by show _ < ((10000 : Nat) : Int); omega) (by omega)) ?_
      refine rx (xs_iinc dm_Re_part_57 rfl (by decide)) ?_
      show rX E _ 60 [some (.inr (some E.1.length)), some (.inl ii), some (.inl ss), some (.inl nn), some (.inl dd), some (.inl (kk + 1))] [] _ _
      refine rx (xs_goto (tgt := 32) dm_Re_part_60 rfl) ?_
      exact ih (k + 1) _ _ (by omega) (by omega) (by omega) (by rw [hq]; exact cpF_s q0 d s k (by omega))
def bigU (q : rS) (n : Nat) : rS := if 40 < n then u3 q 6 6 1 else q
set_option maxHeartbeats 4000000 in
set_option maxRecDepth 100000 in
theorem re_part {q : rS} {ii ss : Int} {s n i : Nat} (hs : ss = s) (hii : ii = i) (hi : i < 4) (ho : q 6 5 = (s : Int) + (n : Int)) (hs0 : 5200 ≤ s) (hs1 : s + n ≤ 10000) : rM mm_Re_part [.inl ii, .inl ss] q (fun r q' => r = none ∧ q' = u3 (cpF (bigU q n) (4480 + 40 * i) s (min n 40)) 1 (112 + i) (min n 40 : Nat)) := by
  refine rm rfl (nl rfl) (fun E => ?_)
  show rX E _ 0 [some (.inr (some E.1.length)), some (.inl ii), some (.inl ss), none, none, none] [] _ _
  refine rx (xs_aload_n dm_Re_part_0 rfl) ?_
  refine rx (rg (v := .inl (q 6 5)) dm_Re_part_1 lf_Re_28 rfl) ?_
  refine rx (xs_iload_n dm_Re_part_4 rfl) ?_
  refine rx (xs_isub dm_Re_part_5) ?_
  refine rx (xs_istore_n dm_Re_part_6 (by decide)) ?_
  show rX E _ 7 [some (.inr (some E.1.length)), some (.inl ii), some (.inl ss), some (.inl ((q 6 5) - ss)), none, none] [] _ _
  refine rx (xs_iload_n dm_Re_part_7 rfl) ?_
  refine rx (xs_bipush dm_Re_part_8 (by decide)) ?_
  refine xx_icmp_le (tgt := 21) dm_Re_part_10 rfl (by unfold ir; omega) (by unfold ir; omega) (fun hc => ?_) (fun hc => ?_)
  · change rX E _ 21 _ _ _ _
    refine rx (xs_bipush dm_Re_part_21 (by decide)) ?_
    refine rx (xs_iload_n dm_Re_part_23 rfl) ?_
    refine rcS (as := [.inl 28, .inl ii]) (rest := []) dm_Re_part_24 lc_Re_base lm_Re_54 li_Re_base (nr rfl rfl) rfl rfl (nl rfl) (re_base _ _) ?_
    show rX E _ 27 [some (.inr (some E.1.length)), some (.inl ii), some (.inl ss), some (.inl ((q 6 5) - ss)), none, none] [.inl (160 * 28 + 40 * ii)] _ _
    refine rx (xs_istore dm_Re_part_27 (by decide)) ?_
    show rX E _ 29 [some (.inr (some E.1.length)), some (.inl ii), some (.inl ss), some (.inl ((q 6 5) - ss)), some (.inl (160 * 28 + 40 * ii)), none] [] _ _
    refine rx (xs_iconst dm_Re_part_29) ?_
    refine rx (xs_istore dm_Re_part_30 (by decide)) ?_
    show rX E _ 32 [some (.inr (some E.1.length)), some (.inl ii), some (.inl ss), some (.inl ((q 6 5) - ss)), some (.inl (160 * 28 + 40 * ii)), some (.inl 0)] [] _ _
    have e1 : bigU q n = q := by unfold bigU; rw [if_neg (by omega)]
    have e2 : min n 40 = n := by omega
    rw [e1, e2]
    exact re_part_l E q (by omega) hs (by omega) hii hi (by omega) (by omega) (n + 1) 0 q _ (by omega) (by omega) rfl (cpF_0 q _ _).symm
  · change rX E _ 13 _ _ _ _
    refine rx (xs_aload_n dm_Re_part_13 rfl) ?_
    refine rx (xs_iconst dm_Re_part_14) ?_
    refine rx (rp 6 (by decide) dm_Re_part_15 lp_Re_50 x_ft_z1) ?_
    refine rx (xs_bipush dm_Re_part_18 (by decide)) ?_
    refine rx (xs_istore_n dm_Re_part_20 (by decide)) ?_
    show rX E _ 21 [some (.inr (some E.1.length)), some (.inl ii), some (.inl ss), some (.inl 40), none, none] [] _ _
    refine rx (xs_bipush dm_Re_part_21 (by decide)) ?_
    refine rx (xs_iload_n dm_Re_part_23 rfl) ?_
    refine rcS (as := [.inl 28, .inl ii]) (rest := []) dm_Re_part_24 lc_Re_base lm_Re_54 li_Re_base (nr rfl rfl) rfl rfl (nl rfl) (re_base _ _) ?_
    show rX E _ 27 [some (.inr (some E.1.length)), some (.inl ii), some (.inl ss), some (.inl 40), none, none] [.inl (160 * 28 + 40 * ii)] _ _
    refine rx (xs_istore dm_Re_part_27 (by decide)) ?_
    show rX E _ 29 [some (.inr (some E.1.length)), some (.inl ii), some (.inl ss), some (.inl 40), some (.inl (160 * 28 + 40 * ii)), none] [] _ _
    refine rx (xs_iconst dm_Re_part_29) ?_
    refine rx (xs_istore dm_Re_part_30 (by decide)) ?_
    show rX E _ 32 [some (.inr (some E.1.length)), some (.inl ii), some (.inl ss), some (.inl 40), some (.inl (160 * 28 + 40 * ii)), some (.inl 0)] [] _ _
    have e1 : bigU q n = u3 q 6 6 1 := by unfold bigU; rw [if_pos (by omega)]
    have e2 : min n 40 = 40 := by omega
    rw [e1, e2]
    exact re_part_l (n := 40) E (u3 q 6 6 1) (by omega) hs rfl hii hi (by omega) (by omega) 41 0 _ _ (by omega) (by omega) rfl (cpF_0 _ _ _).symm
set_option maxHeartbeats 4000000 in
set_option maxRecDepth 100000 in
theorem re_movePart_l {oo ii qq jj fr to nn : Int} {d s n o' j : Nat} (E : rE) (q0 : rS) (hd : to = d) (hs : fr = s) (hn : nn = n) (hqq : qq = o') (hjj : jj = j) (ho' : o' < 30) (hj : j < 4) (hds : d + n ≤ s ∨ s + n ≤ d) (hs1 : s + n ≤ 10000) (hd1 : d + n ≤ 10000) : ∀ (N k : Nat) (q : rS) (kk : Int), n - k < N → k ≤ n → kk = k → q = cpF q0 d s k → rX E mm_Re_movePart 30 [some (.inr (some E.1.length)), some (.inl oo), some (.inl ii), some (.inl qq), some (.inl jj), some (.inl fr), some (.inl to), some (.inl nn), some (.inl kk)] [] q (fun r q' => r = none ∧ q' = u3 (cpF q0 d s n) 1 (4 * o' + j) n) := by
  intro N
  induction N with
  | zero => intro k q kk hN; omega
  | succ N ih =>
    intro k q kk hN hk hkk hq
    by_cases hkn : k = n
    · subst hkn
      subst hq
      refine rx (xs_iload dm_Re_movePart_30 rfl) ?_
      refine rx (xs_iload dm_Re_movePart_32 rfl) ?_
      refine rx (xs_icmp_ge_t (tgt := 63) dm_Re_movePart_34 rfl (by unfold ir; omega) (by unfold ir; omega) (by omega)) ?_
      refine rx (xs_aload_n dm_Re_movePart_63 rfl) ?_
      refine rx (rg (v := .inr (some (rA E 1))) dm_Re_movePart_64 lf_Re_13 rfl) ?_
      refine rx (xs_iconst dm_Re_movePart_67) ?_
      refine rx (xs_iload_n dm_Re_movePart_68 rfl) ?_
      refine rx (xs_imul dm_Re_movePart_69) ?_
      refine rx (xs_iload dm_Re_movePart_70 rfl) ?_
      refine rx (xs_iadd dm_Re_movePart_72) ?_
      refine rx (xs_iload dm_Re_movePart_73 rfl) ?_
      refine rx (rtn 1 (4 * o' + j) (by decide) dm_Re_movePart_75 (by omega) (by show _ < ((120 : Nat) : Int); omega) (by omega)) ?_
      exact rrv dm_Re_movePart_76 rfl ⟨rfl, by rw [hn]⟩
    · refine rx (xs_iload dm_Re_movePart_30 rfl) ?_
      refine rx (xs_iload dm_Re_movePart_32 rfl) ?_
      refine rx (xs_icmp_ge_f (tgt := 63) dm_Re_movePart_34 rfl (by unfold ir; omega) (by unfold ir; omega) (by omega)) ?_
      refine rx (xs_aload_n dm_Re_movePart_37 rfl) ?_
      refine rx (rg (v := .inr (some (rA E 0))) dm_Re_movePart_38 lf_Re_7 rfl) ?_
      refine rx (xs_iload dm_Re_movePart_41 rfl) ?_
      refine rx (xs_iload dm_Re_movePart_43 rfl) ?_
      refine rx (xs_iadd dm_Re_movePart_45) ?_
      refine rx (xs_aload_n dm_Re_movePart_46 rfl) ?_
      refine rx (rg (v := .inr (some (rA E 0))) dm_Re_movePart_47 lf_Re_7 rfl) ?_
      refine rx (xs_iload dm_Re_movePart_50 rfl) ?_
      refine rx (xs_iload dm_Re_movePart_52 rfl) ?_
      refine rx (xs_iadd dm_Re_movePart_54) ?_
      refine rx (rlv 0 (q 0 (s + k)) (by decide) dm_Re_movePart_55 (by omega) (by show _ < ((10000 : Nat) : Int); omega) (by rw [show (fr + kk).toNat = s + k by omega])) ?_
      refine rx (rtn 0 (d + k) (by decide) dm_Re_movePart_56 (by omega) (by show _ < ((10000 : Nat) : Int); omega) (by omega)) ?_
      refine rx (xs_iinc dm_Re_movePart_57 rfl (by decide)) ?_
      show rX E _ 60 [some (.inr (some E.1.length)), some (.inl oo), some (.inl ii), some (.inl qq), some (.inl jj), some (.inl fr), some (.inl to), some (.inl nn), some (.inl (kk + 1))] [] _ _
      refine rx (xs_goto (tgt := 30) dm_Re_movePart_60 rfl) ?_
      exact ih (k + 1) _ _ (by omega) (by omega) (by omega) (by rw [hq]; exact cpF_s q0 d s k (by omega))
/-- row i of object o goes to row j of object o' -/
def mvF (q : rS) (o i o' j : Nat) : rS := u3 (cpF q (160 * o' + 40 * j) (160 * o + 40 * i) (q 1 (4 * o + i)).toNat) 1 (4 * o' + j) (q 1 (4 * o + i))
def lok (q : rS) : Prop := ∀ k, k < 120 → 0 ≤ q 1 k ∧ q 1 k ≤ 40
set_option maxHeartbeats 4000000 in
set_option maxRecDepth 100000 in
theorem re_movePart {q : rS} {oo ii qq jj : Int} {o i o' j : Nat} (ho : oo = o) (hi : ii = i) (hq : qq = o') (hj : jj = j) (h1 : o < 30) (h2 : i < 4) (h3 : o' < 30) (h4 : j < 4) (h5 : ¬ (o = o' ∧ i = j)) (hl : lok q) : rM mm_Re_movePart [.inl oo, .inl ii, .inl qq, .inl jj] q (fun r q' => r = none ∧ q' = mvF q o i o' j) := by
  refine rm rfl (nl rfl) (fun E => ?_)
  have hb := hl (4 * o + i) (by omega)
  show rX E _ 0 [some (.inr (some E.1.length)), some (.inl oo), some (.inl ii), some (.inl qq), some (.inl jj), none, none, none, none] [] _ _
  refine rx (xs_iload_n dm_Re_movePart_0 rfl) ?_
  refine rx (xs_iload_n dm_Re_movePart_1 rfl) ?_
  refine rcS (as := [.inl oo, .inl ii]) (rest := []) dm_Re_movePart_2 lc_Re_base lm_Re_54 li_Re_base (nr rfl rfl) rfl rfl (nl rfl) (re_base _ _) ?_
  show rX E _ 5 [some (.inr (some E.1.length)), some (.inl oo), some (.inl ii), some (.inl qq), some (.inl jj), none, none, none, none] [.inl (160 * oo + 40 * ii)] _ _
  refine rx (xs_istore dm_Re_movePart_5 (by decide)) ?_
  show rX E _ 7 [some (.inr (some E.1.length)), some (.inl oo), some (.inl ii), some (.inl qq), some (.inl jj), some (.inl (160 * oo + 40 * ii)), none, none, none] [] _ _
  refine rx (xs_iload_n dm_Re_movePart_7 rfl) ?_
  refine rx (xs_iload dm_Re_movePart_8 rfl) ?_
  refine rcS (as := [.inl qq, .inl jj]) (rest := []) dm_Re_movePart_10 lc_Re_base lm_Re_54 li_Re_base (nr rfl rfl) rfl rfl (nl rfl) (re_base _ _) ?_
  show rX E _ 13 [some (.inr (some E.1.length)), some (.inl oo), some (.inl ii), some (.inl qq), some (.inl jj), some (.inl (160 * oo + 40 * ii)), none, none, none] [.inl (160 * qq + 40 * jj)] _ _
  refine rx (xs_istore dm_Re_movePart_13 (by decide)) ?_
  show rX E _ 15 [some (.inr (some E.1.length)), some (.inl oo), some (.inl ii), some (.inl qq), some (.inl jj), some (.inl (160 * oo + 40 * ii)), some (.inl (160 * qq + 40 * jj)), none, none] [] _ _
  refine rx (xs_aload_n dm_Re_movePart_15 rfl) ?_
  refine rx (rg (v := .inr (some (rA E 1))) dm_Re_movePart_16 lf_Re_13 rfl) ?_
  refine rx (xs_iconst dm_Re_movePart_19) ?_
  refine rx (xs_iload_n dm_Re_movePart_20 rfl) ?_
  refine rx (xs_imul dm_Re_movePart_21) ?_
  refine rx (xs_iload_n dm_Re_movePart_22 rfl) ?_
  refine rx (xs_iadd dm_Re_movePart_23) ?_
  refine rx (rlv 1 (q 1 (4 * o + i)) (by decide) dm_Re_movePart_24 (by omega) (by show _ < ((120 : Nat) : Int); omega) (by rw [show (4 * oo + ii).toNat = 4 * o + i by omega])) ?_
  refine rx (xs_istore dm_Re_movePart_25 (by decide)) ?_
  show rX E _ 27 [some (.inr (some E.1.length)), some (.inl oo), some (.inl ii), some (.inl qq), some (.inl jj), some (.inl (160 * oo + 40 * ii)), some (.inl (160 * qq + 40 * jj)), some (.inl (q 1 (4 * o + i))), none] [] _ _
  refine rx (xs_iconst dm_Re_movePart_27) ?_
  refine rx (xs_istore dm_Re_movePart_28 (by decide)) ?_
  show rX E _ 30 [some (.inr (some E.1.length)), some (.inl oo), some (.inl ii), some (.inl qq), some (.inl jj), some (.inl (160 * oo + 40 * ii)), some (.inl (160 * qq + 40 * jj)), some (.inl (q 1 (4 * o + i))), some (.inl 0)] [] _ _
  have hdis : 160 * o' + 40 * j + (q 1 (4 * o + i)).toNat ≤ 160 * o + 40 * i ∨ 160 * o + 40 * i + (q 1 (4 * o + i)).toNat ≤ 160 * o' + 40 * j := by
    rcases Nat.lt_trichotomy o o' with h | h | h
    · right; omega
    · subst h
      rcases Nat.lt_trichotomy i j with h | h | h
      · right; omega
      · exact absurd ⟨rfl, h⟩ h5
      · left; omega
    · left; omega
  refine rxq (re_movePart_l (d := 160 * o' + 40 * j) (s := 160 * o + 40 * i) (n := (q 1 (4 * o + i)).toNat) (o' := o') (j := j) E q (by omega) (by omega) (by omega) hq hj h3 h4 hdis (by omega) (by omega) ((q 1 (4 * o + i)).toNat + 1) 0 q _ (by omega) (by omega) rfl (cpF_0 _ _ _).symm) ?_
  rintro _ _ ⟨rfl, rfl⟩
  refine ⟨rfl, ?_⟩
  unfold mvF
  rw [Int.toNat_of_nonneg hb.1]
