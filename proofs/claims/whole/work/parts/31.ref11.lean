/-! rows and hypotheses of an object -/
abbrev oB : Type := Int × List Int × List (List Int)
def rw1 (q : rS) (o i : Nat) (l : List Int) : Prop := q 1 (4 * o + i) = (l.length : Int) ∧ sg q (160 * o + 40 * i) l ∧ l.length ≤ 40
def hyR (q : rS) (o : Nat) (hs : List (List Int)) : Prop := q 3 o = (hs.length : Int) ∧ hs.length ≤ 3 ∧ ∀ (i : Nat) (h : List Int), hs[i]? = some h → rw1 q o (i + 1) h
def rOb (q : rS) (o : Nat) (x : oB) : Prop := q 2 o = x.1 ∧ rw1 q o 0 x.2.1 ∧ hyR q o x.2.2
theorem rw1_fr {q q' : rS} {o i : Nat} {l : List Int} (hi : i < 4) (h : rw1 q o i l) (hf : ∀ a k, tch o a k → q' a k = q a k) : rw1 q' o i l := by
  obtain ⟨h1, h2, h3⟩ := h
  refine ⟨?_, sg_mono h2 (fun k k1 k2 => hf 0 k (by unfold tch; omega)), h3⟩
  rw [hf 1 _ (by unfold tch; omega)]
  exact h1
theorem hyR_fr {q q' : rS} {o : Nat} {hs : List (List Int)} (h : hyR q o hs) (hf : ∀ a k, tch o a k → q' a k = q a k) : hyR q' o hs := by
  obtain ⟨h1, h2, h3⟩ := h
  refine ⟨by rw [hf 3 o (by unfold tch; omega)]; exact h1, h2, fun i x hx => ?_⟩
  have := (List.getElem?_eq_some_iff.mp hx).1
  exact rw1_fr (by omega) (h3 i x hx) hf
theorem rOb_fr {q q' : rS} {o : Nat} {x : oB} (h : rOb q o x) (hf : ∀ a k, tch o a k → q' a k = q a k) : rOb q' o x :=
  ⟨by rw [hf 2 o (by unfold tch; omega)]; exact h.1, rw1_fr (by omega) h.2.1 hf, hyR_fr h.2.2 hf⟩
theorem rw1_cp {q q' : rS} {o p i : Nat} {l : List Int} (hi : i < 4) (h : rw1 q o i l) (hc : rCopy q q' o p) : rw1 q' p i l := by
  obtain ⟨h1, h2, h3⟩ := h
  obtain ⟨c1, c2⟩ := hc.2.2.1 i hi
  refine ⟨by rw [c1]; exact h1, fun k x hx => ?_, h3⟩
  have hk := (List.getElem?_eq_some_iff.mp hx).1
  rw [c2 k (by omega)]
  exact h2 k x hx
theorem rOb_cp {q q' : rS} {o p : Nat} {x : oB} (h : rOb q o x) (hc : rCopy q q' o p) : rOb q' p x := by
  obtain ⟨h1, h2, h3, h4, h5⟩ := h
  refine ⟨by rw [hc.1]; exact h1, rw1_cp (by omega) h2 hc, by rw [hc.2.1]; exact h3, h4, fun i y hy => ?_⟩
  have := (List.getElem?_eq_some_iff.mp hy).1
  exact rw1_cp (by omega) (h5 i y hy) hc
/-! a hypothesis comes in -/
def pos (l : List Int) : List (List Int) → Option Nat
  | [] => some 0
  | h :: hs => if cm l h = 0 then none else if cm l h < 0 then some 0 else (pos l hs).map (· + 1)
theorem pos_le {l : List Int} : ∀ {hs : List (List Int)} {m : Nat}, pos l hs = some m → m ≤ hs.length := by
  intro hs
  induction hs with
  | nil => intro m h; simp [pos] at h; omega
  | cons a hs ih =>
    intro m h
    unfold pos at h
    split at h
    · simp at h
    · split at h
      · simp at h; simp; omega
      · cases hp : pos l hs with
        | none => rw [hp] at h; simp at h
        | some k =>
          rw [hp] at h
          simp at h
          have := ih hp
          simp
          omega
def insA (l : List Int) (hs : List (List Int)) (m : Nat) : List (List Int) := hs.take m ++ l :: hs.drop m
/-- the hypotheses so far and whether they became too many or too large; then one more -/
def hin (l : List Int) (x : List (List Int) × Bool) : List (List Int) × Bool :=
  match pos l x.1 with
  | none => x
  | some m => if x.1.length = 3 ∨ 40 < l.length then (x.1, true) else (insA l x.1 m, x.2)
def bI (b : Bool) : Int := if b then 1 else 0
/-- the object that is being made: 28 -/
def hyB (q : rS) (x : List (List Int) × Bool) : Prop := hyR q 28 x.1 ∧ q 6 6 = bI x.2
def frB (q q' : rS) : Prop := ∀ a k, ¬ (a = 3 ∧ k = 28) → ¬ (a = 1 ∧ 113 ≤ k ∧ k ≤ 115) → ¬ (a = 0 ∧ 4520 ≤ k ∧ k < 4640) → ¬ (a = 6 ∧ k = 6) → q' a k = q a k
theorem cm_r (a b : List Int) : cm a b = 0 ∨ cm a b = -1 ∨ cm a b = 1 := by
  induction a generalizing b with
  | nil => exact Or.inl rfl
  | cons x a ih =>
    cases b with
    | nil => exact Or.inl rfl
    | cons y b =>
      unfold cm
      split
      · exact ih b
      · split
        · exact Or.inr (Or.inl rfl)
        · exact Or.inr (Or.inr rfl)
set_option maxHeartbeats 4000000 in
set_option maxRecDepth 100000 in
theorem re_hyp_1 {q : rS} {ss : Int} {s : Nat} {l : List Int} {hs : List (List Int)} {Q : Option xV → rS → Prop} (E : rE) (hss : ss = s) (hl : sg q s l) (ho : q 6 5 = (s : Int) + (l.length : Int)) (hs1 : s + l.length ≤ 10000) (hli : ∀ x ∈ l, ir x) (hy : hyR q 28 hs) (hhi : ∀ h ∈ hs, ∀ x ∈ h, ir x) (hN0 : pos l hs = none → Q none q) (hS0 : ∀ m, pos l hs = some m → ∀ (aa' : Int) (o3' o4' : Option xV), aa' = (m : Int) + 1 → rX E mm_Re_hypothesis 63 [some (.inr (some E.1.length)), some (.inl ss), some (.inl aa'), o3', o4'] [] q Q) : ∀ (N j : Nat) (aa : Int) (o3 o4 : Option xV), hs.length - j < N → j ≤ hs.length → aa = (j : Int) + 1 → pos l hs = (pos l (hs.drop j)).map (· + j) → rX E mm_Re_hypothesis 2 [some (.inr (some E.1.length)), some (.inl ss), some (.inl aa), o3, o4] [] q Q := by
  intro N
  induction N with
  | zero => intro j aa o3 o4 hN; omega
  | succ N ih =>
    intro j aa o3 o4 hN hj haa hp
    obtain ⟨hy1, hy2, hy3⟩ := id hy
    by_cases hjn : j = hs.length
    · have hp2 : pos l hs = some j := by
        rw [hp, hjn, List.drop_eq_nil_of_le (Nat.le_refl _)]
        simp [pos]
      refine rx (xs_iload_n dm_Re_hypothesis_2 rfl) ?_
      refine rx (xs_aload_n dm_Re_hypothesis_3 rfl) ?_
      refine rx (rg (v := .inr (some (rA E 3))) dm_Re_hypothesis_4 lf_Re_19 rfl) ?_
      refine rx (xs_bipush dm_Re_hypothesis_7 (by decide)) ?_
      refine rx (rlv 3 (hs.length : Int) (by decide) dm_Re_hypothesis_9 (by omega) (by show _ < ((30 : Nat) : Int); omega) (by show q 3 28 = _; exact hy1)) ?_
      refine rx (xs_icmp_gt_t (tgt := 63) dm_Re_hypothesis_10 rfl (by unfold ir; omega) (by unfold ir; omega) (by omega)) ?_
      exact hS0 j hp2 _ _ _ haa
    · obtain ⟨h, hh⟩ : ∃ h, hs[j]? = some h := ⟨_, List.getElem?_eq_getElem (by omega)⟩
      obtain ⟨r1, r2, r3⟩ := hy3 j h hh
      have hdj : hs.drop j = h :: hs.drop (j + 1) := by
        obtain ⟨hlt, he⟩ := List.getElem?_eq_some_iff.mp hh
        rw [List.drop_eq_getElem_cons hlt, he]
      have hhx := hhi h (List.mem_of_getElem? hh)
      rw [hdj, pos] at hp
      refine rx (xs_iload_n dm_Re_hypothesis_2 rfl) ?_
      refine rx (xs_aload_n dm_Re_hypothesis_3 rfl) ?_
      refine rx (rg (v := .inr (some (rA E 3))) dm_Re_hypothesis_4 lf_Re_19 rfl) ?_
      refine rx (xs_bipush dm_Re_hypothesis_7 (by decide)) ?_
      refine rx (rlv 3 (hs.length : Int) (by decide) dm_Re_hypothesis_9 (by omega) (by show _ < ((30 : Nat) : Int); omega) (by show q 3 28 = _; exact hy1)) ?_
      refine rx (xs_icmp_gt_f (tgt := 63) dm_Re_hypothesis_10 rfl (by unfold ir; omega) (by unfold ir; omega) (by omega)) ?_
      refine rx (xs_bipush dm_Re_hypothesis_13 (by decide)) ?_
      refine rx (xs_iload_n dm_Re_hypothesis_15 rfl) ?_
      refine rcS (as := [.inl 28, .inl aa]) (rest := []) dm_Re_hypothesis_16 lc_Re_base lm_Re_54 li_Re_base (nr rfl rfl) rfl rfl (nl rfl) (re_base _ _) ?_
      show rX E _ 19 [some (.inr (some E.1.length)), some (.inl ss), some (.inl aa), o3, o4] [.inl (160 * 28 + 40 * aa)] _ _
      refine rx (xs_istore_n dm_Re_hypothesis_19 (by decide)) ?_
      show rX E _ 20 [some (.inr (some E.1.length)), some (.inl ss), some (.inl aa), some (.inl (160 * 28 + 40 * aa)), o4] [] _ _
      refine rx (xs_aload_n dm_Re_hypothesis_20 rfl) ?_
      refine rx (xs_iload_n dm_Re_hypothesis_21 rfl) ?_
      refine rx (xs_aload_n dm_Re_hypothesis_22 rfl) ?_
      refine rx (rg (v := .inl (q 6 5)) dm_Re_hypothesis_23 lf_Re_28 rfl) ?_
      refine rx (xs_iload_n dm_Re_hypothesis_26 rfl) ?_
      refine rx (xs_iload_n dm_Re_hypothesis_27 rfl) ?_
      refine rx (xs_aload_n dm_Re_hypothesis_28 rfl) ?_
      refine rx (rg (v := .inr (some (rA E 1))) dm_Re_hypothesis_29 lf_Re_13 rfl) ?_
      refine rx (xs_bipush dm_Re_hypothesis_32 (by decide)) ?_
      refine rx (xs_iload_n dm_Re_hypothesis_34 rfl) ?_
      refine rx (xs_iadd dm_Re_hypothesis_35) ?_
      refine rx (rlv 1 (h.length : Int) (by decide) dm_Re_hypothesis_36 (by omega) (by show _ < ((120 : Nat) : Int); omega) (by rw [← r1]; congr 1; omega)) ?_
      refine rx (xs_iadd dm_Re_hypothesis_37) ?_
      refine rcV (as := [.inl ss, .inl (q 6 5), .inl (160 * 28 + 40 * aa), .inl ((160 * 28 + 40 * aa) + (h.length : Int))]) (rest := []) dm_Re_hypothesis_38 lc_Re_compare lm_Re_58 li_Re_compare (nr rfl rfl) rfl rfl rfl (nl rfl) (re_compare (p := s) (p2 := 160 * 28 + 40 * (j + 1)) hl r2 hss ho (by omega) (by omega) hs1 (by omega) hli hhx) ?_
      rintro _ q1 ⟨rfl, hq1⟩
      have hq1 := hq1.symm
      subst hq1
      show rX E _ 41 [some (.inr (some E.1.length)), some (.inl ss), some (.inl aa), some (.inl (160 * 28 + 40 * aa)), o4] [.inl (cm l h)] _ _
      have hcr : cm l h = 0 ∨ cm l h = -1 ∨ cm l h = 1 := cm_r l h
      have hci : ir (cm l h) := by unfold ir; omega
      refine rx (xs_istore dm_Re_hypothesis_41 (by decide)) ?_
      show rX E _ 43 [some (.inr (some E.1.length)), some (.inl ss), some (.inl aa), some (.inl (160 * 28 + 40 * aa)), some (.inl (cm l h))] [] _ _
      refine rx (xs_iload dm_Re_hypothesis_43 rfl) ?_
      refine xx_if_ne (tgt := 49) dm_Re_hypothesis_45 rfl hci (fun hc => ?_) (fun hc => ?_)
      · change rX E _ 49 _ _ _ _
        refine rx (xs_iload dm_Re_hypothesis_49 rfl) ?_
        refine xx_if_ge (tgt := 57) dm_Re_hypothesis_51 rfl hci (fun hc2 => ?_) (fun hc2 => ?_)
        · change rX E _ 57 _ _ _ _
          refine rx (xs_iinc dm_Re_hypothesis_57 rfl (by decide)) ?_
          show rX E _ 60 [some (.inr (some E.1.length)), some (.inl ss), some (.inl (aa + 1)), some (.inl (160 * 28 + 40 * aa)), some (.inl (cm l h))] [] _ _
          refine rx (xs_goto (tgt := 2) dm_Re_hypothesis_60 rfl) ?_
          rw [if_neg hc, if_neg (by omega)] at hp
          exact ih (j + 1) _ _ _ (by omega) (by omega) (by omega) (by
            rw [hp]
            cases hpp : pos l (hs.drop (j + 1)) with
            | none => rfl
            | some k => simp; omega)
        · change rX E _ 54 _ _ _ _
          rw [if_neg hc, if_pos (by omega)] at hp
          refine rx (xs_goto (tgt := 63) dm_Re_hypothesis_54 rfl) ?_
          exact hS0 j (by rw [hp]; simp) _ _ _ haa
      · change rX E _ 48 _ _ _ _
        rw [if_pos hc] at hp
        exact rrv dm_Re_hypothesis_48 rfl (hN0 (by rw [hp]; rfl))
def shR (q0 q : rS) (hs : List (List Int)) (i0 : Nat) : Prop := lok q ∧ (∀ (j : Nat) (h : List Int), hs[j]? = some h → j < i0 → rw1 q 28 (j + 1) h) ∧ (∀ (j : Nat) (h : List Int), hs[j]? = some h → i0 ≤ j → rw1 q 28 (j + 2) h) ∧ (∀ a k, ¬ (a = 1 ∧ 113 ≤ k ∧ k ≤ 115) → ¬ (a = 0 ∧ 4520 ≤ k ∧ k < 4640) → q a k = q0 a k)
set_option maxHeartbeats 4000000 in
set_option maxRecDepth 100000 in
theorem re_hyp_2 {q0 : rS} {ss aa : Int} {m : Nat} {hs : List (List Int)} {o4 : Option xV} {Q : Option xV → rS → Prop} (E : rE) (haa : aa = (m : Int) + 1) (hm : m ≤ hs.length) (hn : hs.length ≤ 2) (hQ : ∀ (q : rS) (kk' : Int), shR q0 q hs m → rX E mm_Re_hypothesis 122 [some (.inr (some E.1.length)), some (.inl ss), some (.inl aa), some (.inl kk'), o4] [] q Q) : ∀ (N i0 : Nat) (q : rS) (kk : Int), i0 - m < N → m ≤ i0 → i0 ≤ hs.length → kk = i0 → shR q0 q hs i0 → rX E mm_Re_hypothesis 99 [some (.inr (some E.1.length)), some (.inl ss), some (.inl aa), some (.inl kk), o4] [] q Q := by
  intro N
  induction N with
  | zero => intro i0 q kk hN; omega
  | succ N ih =>
    intro i0 q kk hN h1 h2 hkk hsh
    by_cases him : i0 = m
    · subst him
      refine rx (xs_iload_n dm_Re_hypothesis_99 rfl) ?_
      refine rx (xs_iload_n dm_Re_hypothesis_100 rfl) ?_
      refine rx (xs_icmp_lt_t (tgt := 122) dm_Re_hypothesis_101 rfl (by unfold ir; omega) (by unfold ir; omega) (by omega)) ?_
      exact hQ q _ hsh
    · obtain ⟨l0, s1, s2, s3⟩ := hsh
      have hb := l0 (4 * 28 + i0) (by omega)
      refine rx (xs_iload_n dm_Re_hypothesis_99 rfl) ?_
      refine rx (xs_iload_n dm_Re_hypothesis_100 rfl) ?_
      refine rx (xs_icmp_lt_f (tgt := 122) dm_Re_hypothesis_101 rfl (by unfold ir; omega) (by unfold ir; omega) (by omega)) ?_
      refine rx (xs_aload_n dm_Re_hypothesis_104 rfl) ?_
      refine rx (xs_bipush dm_Re_hypothesis_105 (by decide)) ?_
      refine rx (xs_iload_n dm_Re_hypothesis_107 rfl) ?_
      refine rx (xs_bipush dm_Re_hypothesis_108 (by decide)) ?_
      refine rx (xs_iload_n dm_Re_hypothesis_110 rfl) ?_
      refine rx (xs_iconst dm_Re_hypothesis_111) ?_
      refine rx (xs_iadd dm_Re_hypothesis_112) ?_
      refine rcV (as := [.inl 28, .inl kk, .inl 28, .inl (kk + 1)]) (rest := []) dm_Re_hypothesis_113 lc_Re_movePart lm_Re_62 li_Re_movePart (nr rfl rfl) rfl rfl rfl (nl rfl) (re_movePart (o := 28) (i := i0) (o' := 28) (j := i0 + 1) rfl hkk rfl (by omega) (by decide) (by omega) (by decide) (by omega) (by omega) l0) ?_
      rintro _ _ ⟨rfl, rfl⟩
      show rX E _ 116 [some (.inr (some E.1.length)), some (.inl ss), some (.inl aa), some (.inl kk), o4] [] _ _
      refine rx (xs_iinc dm_Re_hypothesis_116 rfl (by decide)) ?_
      show rX E _ 119 [some (.inr (some E.1.length)), some (.inl ss), some (.inl aa), some (.inl (kk + (-1))), o4] [] _ _
      refine rx (xs_goto (tgt := 99) dm_Re_hypothesis_119 rfl) ?_
      have f1 : ∀ a k, ¬ (a = 1 ∧ k = 4 * 28 + (i0 + 1)) → ¬ (a = 0 ∧ 160 * 28 + 40 * (i0 + 1) ≤ k ∧ k < 160 * 28 + 40 * (i0 + 1) + 40) → (mvF q 28 i0 28 (i0 + 1)) a k = q a k := fun a k => mv_fr hb.2
      have keep : ∀ (i : Nat) (h : List Int), ¬ i = i0 + 1 → rw1 q 28 i h → rw1 (mvF q 28 i0 28 (i0 + 1)) 28 i h := by
        rintro i h hi ⟨r1, r2, r3⟩
        refine ⟨by rw [f1 _ _ (by omega) (by omega)]; exact r1, sg_mono r2 (fun k k1 k2 => f1 _ _ (by omega) (by omega)), r3⟩
      refine ih (i0 - 1) _ _ (by omega) (by omega) (by omega) (by omega) ⟨mv_lok l0 (by omega), fun j h hj hji => keep _ _ (by omega) (s1 j h hj (by omega)), fun j h hj hji => ?_, fun a k k1 k2 => ?_⟩
      · by_cases hji2 : j = i0 - 1
        · obtain ⟨r1, r2, r3⟩ := s1 j h hj (by omega)
          have e1 : j + 2 = i0 + 1 := by omega
          have e2 : j + 1 = i0 := by omega
          rw [e2] at r1 r2
          rw [e1]
          refine ⟨by rw [mv_len]; exact r1, fun k x hx => ?_, r3⟩
          have hkl := (List.getElem?_eq_some_iff.mp hx).1
          rw [mv_mem (by omega)]
          exact r2 k x hx
        · exact keep _ _ (by omega) (s2 j h hj (by omega))
      · rw [f1 _ _ (by omega) (by omega)]
        exact s3 a k k1 k2
theorem ins_get {l h : List Int} {hs : List (List Int)} {m i : Nat} (hm : m ≤ hs.length) (hi : (insA l hs m)[i]? = some h) : (i < m ∧ hs[i]? = some h) ∨ (i = m ∧ h = l) ∨ (m < i ∧ hs[i - 1]? = some h) := by
  unfold insA at hi
  have hl : (hs.take m).length = m := by simp; omega
  by_cases h1 : i < m
  · left
    rw [List.getElem?_append_left (by omega), List.getElem?_take_of_lt h1] at hi
    exact ⟨h1, hi⟩
  · right
    rw [List.getElem?_append_right (by omega), hl] at hi
    by_cases h2 : i = m
    · left
      subst h2
      simp at hi
      exact ⟨rfl, hi.symm⟩
    · right
      refine ⟨by omega, ?_⟩
      have e : i - m = (i - m - 1) + 1 := by omega
      rw [e, List.getElem?_cons_succ, List.getElem?_drop] at hi
      rw [← hi]
      congr 1
      omega
theorem ins_len {l : List Int} {hs : List (List Int)} {m : Nat} (hm : m ≤ hs.length) : (insA l hs m).length = hs.length + 1 := by
  unfold insA
  simp
  omega
set_option maxHeartbeats 4000000 in
set_option maxRecDepth 100000 in
theorem re_hypothesis {q : rS} {ss : Int} {s : Nat} {l : List Int} {x : List (List Int) × Bool} (hss : ss = s) (hl : sg q s l) (ho : q 6 5 = (s : Int) + (l.length : Int)) (hs0 : 5200 ≤ s) (hs1 : s + l.length ≤ 10000) (hli : ∀ z ∈ l, ir z) (hy : hyB q x) (hhi : ∀ h ∈ x.1, ∀ z ∈ h, ir z) (hk : lok q) : rM mm_Re_hypothesis [.inl ss] q (fun r q' => r = none ∧ hyB q' (hin l x) ∧ frB q q' ∧ lok q') := by
  refine rm rfl (nl rfl) (fun E => ?_)
  show rX E _ 0 [some (.inr (some E.1.length)), some (.inl ss), none, none, none] [] _ _
  refine rx (xs_iconst dm_Re_hypothesis_0) ?_
  refine rx (xs_istore_n dm_Re_hypothesis_1 (by decide)) ?_
  show rX E _ 2 [some (.inr (some E.1.length)), some (.inl ss), some (.inl 1), none, none] [] _ _
  obtain ⟨hs, bb⟩ := x
  obtain ⟨hy0, hyb⟩ := hy
  obtain ⟨hy1, hy2, hy3⟩ := id hy0
  dsimp only at hy0 hyb hy1 hy2 hy3 hhi
  refine re_hyp_1 E hss hl ho hs1 hli hy0 hhi ?_ ?_ (hs.length + 1) 0 _ _ _ (by omega) (by omega) rfl (by simp)
  · intro hp
    refine ⟨rfl, ?_, fun a k _ _ _ _ => rfl, hk⟩
    unfold hin
    simp only [hp]
    exact ⟨hy0, hyb⟩
  intro m hp aa' o3' o4' haa
  have hm := pos_le hp
  refine rx (xs_aload_n dm_Re_hypothesis_63 rfl) ?_
  refine rx (rg (v := .inr (some (rA E 3))) dm_Re_hypothesis_64 lf_Re_19 rfl) ?_
  refine rx (xs_bipush dm_Re_hypothesis_67 (by decide)) ?_
  refine rx (rlv 3 (hs.length : Int) (by decide) dm_Re_hypothesis_69 (by omega) (by show _ < ((30 : Nat) : Int); omega) (by show q 3 28 = _; exact hy1)) ?_
  refine rx (xs_iconst dm_Re_hypothesis_70) ?_
  refine xx_icmp_eq (tgt := 85) dm_Re_hypothesis_71 rfl (by unfold ir; omega) (by unfold ir; omega) (fun hc => ?_) (fun hc => ?_)
  · change rX E _ 85 _ _ _ _
    refine rx (xs_aload_n dm_Re_hypothesis_85 rfl) ?_
    refine rx (xs_iconst dm_Re_hypothesis_86) ?_
    refine rx (rp 6 (by decide) dm_Re_hypothesis_87 lp_Re_50 x_ft_z1) ?_
    refine rrv dm_Re_hypothesis_90 rfl ⟨rfl, ?_, ?_, ?_⟩
    · unfold hin
      simp only [hp]
      rw [if_pos (Or.inl (by omega))]
      exact ⟨hyR_fr hy0 (fun a k ht => u3_ne (by unfold tch at ht; omega)), u3_eq _ _ _ _⟩
    · intro a k _ _ _ h6
      exact u3_ne h6
    · intro k hk2
      rw [u3_ne (by omega)]
      exact hk k hk2
  · change rX E _ 74 _ _ _ _
    refine rx (xs_aload_n dm_Re_hypothesis_74 rfl) ?_
    refine rx (rg (v := .inl (q 6 5)) dm_Re_hypothesis_75 lf_Re_28 rfl) ?_
    refine rx (xs_iload_n dm_Re_hypothesis_78 rfl) ?_
    refine rx (xs_isub dm_Re_hypothesis_79) ?_
    refine rx (xs_bipush dm_Re_hypothesis_80 (by decide)) ?_
    refine xx_icmp_le (tgt := 91) dm_Re_hypothesis_82 rfl (by unfold ir; omega) (by unfold ir; omega) (fun hc2 => ?_) (fun hc2 => ?_)
    · change rX E _ 91 _ _ _ _
      refine rx (xs_aload_n dm_Re_hypothesis_91 rfl) ?_
      refine rx (rg (v := .inr (some (rA E 3))) dm_Re_hypothesis_92 lf_Re_19 rfl) ?_
      refine rx (xs_bipush dm_Re_hypothesis_95 (by decide)) ?_
      refine rx (rlv 3 (hs.length : Int) (by decide) dm_Re_hypothesis_97 (by omega) (by show _ < ((30 : Nat) : Int); omega) (by show q 3 28 = _; exact hy1)) ?_
      refine rx (xs_istore_n dm_Re_hypothesis_98 (by decide)) ?_
      show rX E _ 99 [some (.inr (some E.1.length)), some (.inl ss), some (.inl aa'), some (.inl (hs.length : Int)), o4'] [] _ _
      refine re_hyp_2 (q0 := q) (m := m) (hs := hs) E haa hm (by omega) ?_ (hs.length + 1) hs.length q _ (by omega) hm (by omega) rfl ⟨hk, fun j h hj _ => hy3 j h hj, fun j h hj hge => by have := (List.getElem?_eq_some_iff.mp hj).1; omega, fun a k _ _ => rfl⟩
      intro q2 kk2 hsh
      obtain ⟨l2, s1, s2, s3⟩ := hsh
      have e3 : q2 3 28 = (hs.length : Int) := by rw [s3 _ _ (by omega) (by omega)]; exact hy1
      have e6 : q2 6 5 = (s : Int) + (l.length : Int) := by rw [s3 _ _ (by omega) (by omega)]; exact ho
      show rX E _ 122 [some (.inr (some E.1.length)), some (.inl ss), some (.inl aa'), some (.inl kk2), o4'] [] _ _
      refine rx (xs_aload_n dm_Re_hypothesis_122 rfl) ?_
      refine rx (rg (v := .inr (some (rA E 3))) dm_Re_hypothesis_123 lf_Re_19 rfl) ?_
      refine rx (xs_bipush dm_Re_hypothesis_126 (by decide)) ?_
      refine rx (xs_dup2 dm_Re_hypothesis_128) ?_
      refine rx (rlv 3 (hs.length : Int) (by decide) dm_Re_hypothesis_129 (by omega) (by show _ < ((30 : Nat) : Int); omega) (by show q2 3 28 = _; exact e3)) ?_
      refine rx (xs_iconst dm_Re_hypothesis_130) ?_
      refine rx (xs_iadd dm_Re_hypothesis_131) ?_
      refine rx (rtn 3 28 (by decide) dm_Re_hypothesis_132 (by omega) (by show _ < ((30 : Nat) : Int); omega) rfl) ?_
      refine rx (xs_aload_n dm_Re_hypothesis_133 rfl) ?_
      refine rx (xs_iload_n dm_Re_hypothesis_134 rfl) ?_
      refine rx (xs_iload_n dm_Re_hypothesis_135 rfl) ?_
      have o5 : (u3 q2 3 28 ((hs.length : Int) + 1)) 6 5 = (s : Int) + (l.length : Int) := by rw [u3_ne (by omega)]; exact e6
      have hb : bigU (u3 q2 3 28 ((hs.length : Int) + 1)) l.length = u3 q2 3 28 ((hs.length : Int) + 1) := by unfold bigU; rw [if_neg (by omega)]
      have hmn : min l.length 40 = l.length := by omega
      refine rcV (as := [.inl aa', .inl ss]) (rest := []) dm_Re_hypothesis_136 lc_Re_part lm_Re_66 li_Re_part (nr rfl rfl) rfl rfl rfl (nl rfl) (re_part (s := s) (n := l.length) (i := m + 1) hss (by omega) (by omega) o5 hs0 (by omega)) ?_
      rintro _ _ ⟨rfl, rfl⟩
      show rX E _ 139 [some (.inr (some E.1.length)), some (.inl ss), some (.inl aa'), some (.inl kk2), o4'] [] _ _
      rw [hb, hmn]
      have g : ∀ a k, ¬ (a = 1 ∧ k = 112 + (m + 1)) → ¬ (a = 0 ∧ 4480 + 40 * (m + 1) ≤ k ∧ k < 4480 + 40 * (m + 1) + 40) → ¬ (a = 3 ∧ k = 28) → (u3 (cpF (u3 q2 3 28 ((hs.length : Int) + 1)) (4480 + 40 * (m + 1)) s l.length) 1 (112 + (m + 1)) (l.length : Int)) a k = q2 a k := by
        intro a k k1 k2 k3
        rw [u3_ne k1, cpF_out (by omega), u3_ne k3]
      have keep : ∀ (i : Nat) (h : List Int), ¬ i = m + 1 → rw1 q2 28 i h → rw1 (u3 (cpF (u3 q2 3 28 ((hs.length : Int) + 1)) (4480 + 40 * (m + 1)) s l.length) 1 (112 + (m + 1)) (l.length : Int)) 28 i h := by
        rintro i h hi ⟨r1, r2, r3⟩
        refine ⟨by rw [g _ _ (by omega) (by omega) (by omega)]; exact r1, sg_mono r2 (fun k k1 k2 => g _ _ (by omega) (by omega) (by omega)), r3⟩
      refine rrv dm_Re_hypothesis_139 rfl ⟨rfl, ?_, ?_, ?_⟩
      · unfold hin
        simp only [hp]
        rw [if_neg (by omega)]
        refine ⟨⟨?_, ?_, ?_⟩, ?_⟩
        · rw [ins_len hm, u3_ne (by omega), cpF_out (by omega), u3_eq]
          simp
        · rw [ins_len hm]
          omega
        · intro i h hi
          rcases ins_get hm hi with ⟨h1, h2⟩ | ⟨h1, h2⟩ | ⟨h1, h2⟩
          · exact keep _ _ (by omega) (s1 i h h2 h1)
          · subst h1
            subst h2
            refine ⟨by rw [show 4 * 28 + (i + 1) = 112 + (i + 1) by omega, u3_eq], fun k z hz => ?_, by omega⟩
            have hkl := (List.getElem?_eq_some_iff.mp hz).1
            rw [show 160 * 28 + 40 * (i + 1) + k = 4480 + 40 * (i + 1) + k by omega, u3_ne (by omega), cpF_in hkl, u3_ne (by omega), s3 _ _ (by omega) (by omega)]
            exact hl k z hz
          · have := s2 (i - 1) h h2 (by omega)
            rw [show i - 1 + 2 = i + 1 by omega] at this
            exact keep _ _ (by omega) this
        · rw [g _ _ (by omega) (by omega) (by omega), s3 _ _ (by omega) (by omega)]
          exact hyb
      · intro a k h1 h2 h3 h4
        rw [g _ _ (by omega) (by omega) (by omega), s3 _ _ (by omega) (by omega)]
      · intro k hk2
        by_cases hk3 : k = 112 + (m + 1)
        · subst hk3
          rw [u3_eq]
          omega
        · rw [g _ _ (by omega) (by omega) (by omega)]
          exact l2 k hk2
    · change rX E _ 85 _ _ _ _
      refine rx (xs_aload_n dm_Re_hypothesis_85 rfl) ?_
      refine rx (xs_iconst dm_Re_hypothesis_86) ?_
      refine rx (rp 6 (by decide) dm_Re_hypothesis_87 lp_Re_50 x_ft_z1) ?_
      refine rrv dm_Re_hypothesis_90 rfl ⟨rfl, ?_, ?_, ?_⟩
      · unfold hin
        simp only [hp]
        rw [if_pos (Or.inr (by omega))]
        exact ⟨hyR_fr hy0 (fun a k ht => u3_ne (by unfold tch at ht; omega)), u3_eq _ _ _ _⟩
      · intro a k _ _ _ h6
        exact u3_ne h6
      · intro k hk2
        rw [u3_ne (by omega)]
        exact hk k hk2
