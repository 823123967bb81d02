/-! the reference's small methods -/
def em (q : rS) (x : Int) : rS := u3 (u3 q 0 (q 6 5).toNat x) 6 5 (q 6 5 + 1)
def emL (q : rS) (l : List Int) : rS := l.foldl em q
def sg (q : rS) (p : Nat) (l : List Int) : Prop := ∀ (i : Nat) (x : Int), l[i]? = some x → q 0 (p + i) = x
theorem sg_nil {q : rS} {p : Nat} : sg q p [] := fun i x h => by simp at h
theorem sg_hd {q : rS} {p : Nat} {x : Int} {l : List Int} (h : sg q p (x :: l)) : q 0 p = x := h 0 x rfl
theorem sg_tl {q : rS} {p : Nat} {x : Int} {l : List Int} (h : sg q p (x :: l)) : sg q (p + 1) l := fun i y hy => by
  have := h (i + 1) y (by simpa using hy)
  rw [← this]
  congr 1
  omega
theorem sg_cons {q : rS} {p : Nat} {x : Int} {l : List Int} (h : q 0 p = x) (h' : sg q (p + 1) l) : sg q p (x :: l) := fun i y hy => by
  cases i with
  | zero => simp at hy; subst hy; exact h
  | succ i =>
    simp at hy
    have := h' i y hy
    rw [← this]
    congr 1
    omega
theorem sg_app {q : rS} {p : Nat} {a b : List Int} : sg q p (a ++ b) ↔ sg q p a ∧ sg q (p + a.length) b := by
  constructor
  · intro h
    refine ⟨fun i x hx => h i x ?_, fun i x hx => ?_⟩
    · rw [List.getElem?_append_left (List.getElem?_eq_some_iff.mp hx).1]; exact hx
    · have := h (a.length + i) x (by rw [List.getElem?_append_right (by omega)]; rw [show a.length + i - a.length = i by omega]; exact hx)
      rw [← this]
      congr 1
      omega
  · rintro ⟨h1, h2⟩ i x hx
    by_cases hi : i < a.length
    · rw [List.getElem?_append_left hi] at hx
      exact h1 i x hx
    · rw [List.getElem?_append_right (by omega)] at hx
      have := h2 _ x hx
      rw [← this]
      congr 1
      omega
theorem sg_mono {q q' : rS} {p : Nat} {l : List Int} (h : sg q p l) (he : ∀ k, p ≤ k → k < p + l.length → q' 0 k = q 0 k) : sg q' p l := fun i x hx => by
  rw [he (p + i) (by omega) (by have := (List.getElem?_eq_some_iff.mp hx).1; omega)]
  exact h i x hx
theorem em_out (q : rS) (x : Int) : (em q x) 6 5 = q 6 5 + 1 := by simp [em, u3]
theorem em_mem {q : rS} {x : Int} {k : Nat} (h : ¬ k = (q 6 5).toNat) : (em q x) 0 k = q 0 k := by simp [em, u3, h]
theorem em_at (q : rS) (x : Int) : (em q x) 0 (q 6 5).toNat = x := by simp [em, u3]
theorem em_s {q : rS} {x : Int} {j : Nat} (h : ¬ j = 5) : (em q x) 6 j = q 6 j := by simp [em, u3, h]
theorem em_a {q : rS} {x : Int} {a j : Nat} (h : ¬ a = 0) (h6 : ¬ a = 6) : (em q x) a j = q a j := by simp [em, u3, h, h6]
theorem emL_nil (q : rS) : emL q [] = q := rfl
theorem emL_cons (q : rS) (x : Int) (l : List Int) : emL q (x :: l) = emL (em q x) l := rfl
theorem emL_app (q : rS) (a b : List Int) : emL q (a ++ b) = emL (emL q a) b := by simp [emL]
theorem emL_out (q : rS) (l : List Int) : (emL q l) 6 5 = q 6 5 + (l.length : Int) := by
  induction l generalizing q with
  | nil => simp [emL]
  | cons x l ih => rw [emL_cons, ih, em_out]; simp; omega
theorem emL_s {q : rS} {l : List Int} {j : Nat} (h : ¬ j = 5) : (emL q l) 6 j = q 6 j := by
  induction l generalizing q with
  | nil => rfl
  | cons x l ih => rw [emL_cons, ih, em_s h]
theorem emL_a {q : rS} {l : List Int} {a j : Nat} (h : ¬ a = 0) (h6 : ¬ a = 6) : (emL q l) a j = q a j := by
  induction l generalizing q with
  | nil => rfl
  | cons x l ih => rw [emL_cons, ih, em_a h h6]
theorem emL_lo {q : rS} {l : List Int} {k : Nat} (h0 : 0 ≤ q 6 5) (h : (k : Int) < q 6 5) : (emL q l) 0 k = q 0 k := by
  induction l generalizing q with
  | nil => rfl
  | cons x l ih => rw [emL_cons, ih (by rw [em_out]; omega) (by rw [em_out]; omega), em_mem (by omega)]
theorem emL_hi {q : rS} {l : List Int} {k : Nat} (h0 : 0 ≤ q 6 5) (h : q 6 5 + (l.length : Int) ≤ (k : Int)) : (emL q l) 0 k = q 0 k := by
  induction l generalizing q with
  | nil => rfl
  | cons x l ih =>
    simp at h
    rw [emL_cons, ih (by rw [em_out]; omega) (by rw [em_out]; omega), em_mem (by omega)]
theorem emL_sg {q : rS} {l : List Int} {p : Nat} (h0 : 0 ≤ q 6 5) (hp : q 6 5 = (p : Int)) : sg (emL q l) p l := by
  induction l generalizing q p with
  | nil => exact sg_nil
  | cons x l ih =>
    refine sg_cons ?_ ?_
    · rw [emL_cons, emL_lo (by rw [em_out]; omega) (by rw [em_out]; omega)]
      have := em_at q x
      rw [hp] at this
      simpa using this
    · rw [emL_cons]
      exact ih (by rw [em_out]; omega) (by rw [em_out]; omega)
theorem emL_sgo {q : rS} {l s : List Int} {p : Nat} (h0 : 0 ≤ q 6 5) (hs : sg q p s) (hp : (p : Int) + (s.length : Int) ≤ q 6 5) : sg (emL q l) p s := sg_mono hs (fun k _ h2 => emL_lo h0 (by omega))
set_option maxHeartbeats 4000000 in
set_option maxRecDepth 100000 in
theorem re_base (o i : Int) (h : xH) : x_M mm_Re_base [.inl o, .inl i] h (some (.inl (160 * o + 40 * i))) h := by
  refine xm rfl (nl rfl) ?_
  refine (xs_sipush dm_Re_base_0 (by decide)) _ _ ?_
  refine (xs_iload_n dm_Re_base_3 rfl) _ _ ?_
  refine (xs_imul dm_Re_base_4) _ _ ?_
  refine (xs_bipush dm_Re_base_5 (by decide)) _ _ ?_
  refine (xs_iload_n dm_Re_base_7 rfl) _ _ ?_
  refine (xs_imul dm_Re_base_8) _ _ ?_
  refine (xs_iadd dm_Re_base_9) _ _ ?_
  exact xb_i dm_Re_base_10 rfl
set_option maxHeartbeats 4000000 in
set_option maxRecDepth 100000 in
theorem re_emit {q : rS} {x : Int} (h0 : 0 ≤ q 6 5) (h1 : q 6 5 < 10000) : rM mm_Re_emit [.inl x] q (fun r q' => r = none ∧ q' = em q x) := by
  refine rm rfl (nl rfl) (fun E => ?_)
  show rX E _ 0 [some (.inr (some E.1.length)), some (.inl x)] [] _ _
  refine rx (xs_aload_n dm_Re_emit_0 rfl) ?_
  refine rx (rg (v := .inr (some (rA E 0))) dm_Re_emit_1 lf_Re_7 rfl) ?_
  refine rx (xs_aload_n dm_Re_emit_4 rfl) ?_
  refine rx (rg (v := .inl (q 6 5)) dm_Re_emit_5 lf_Re_28 rfl) ?_
  refine rx (xs_iload_n dm_Re_emit_8 rfl) ?_
  refine rx (rt 0 (by decide) dm_Re_emit_9 (by omega) (by show _ < ((10000 : Nat) : Int); omega)) ?_
  refine rx (xs_aload_n dm_Re_emit_10 rfl) ?_
  refine rx (xs_dup dm_Re_emit_11) ?_
  refine rx (rg (v := .inl ((u3 q 0 ((q 6 5)).toNat x) 6 5)) dm_Re_emit_12 lf_Re_28 rfl) ?_
  refine rx (xs_iconst dm_Re_emit_15) ?_
  refine rx (xs_iadd dm_Re_emit_16) ?_
  refine rx (rp 5 (by decide) dm_Re_emit_17 lp_Re_28 (x_ft_i _)) ?_
  exact rrv dm_Re_emit_20 rfl ⟨rfl, rfl⟩
set_option maxHeartbeats 4000000 in
set_option maxRecDepth 100000 in
theorem re_emitRow_l {t : Int} (f : Int) (l : List Int) : ∀ {q : rS} {p : Nat} (E : rE), sg q p l → (p : Int) + (l.length : Int) = t → t ≤ q 6 5 → q 6 5 + (l.length : Int) ≤ 10000 → rX E mm_Re_emitRow 2 [some (.inr (some E.1.length)), some (.inl f), some (.inl t), some (.inl (p : Int))] [] q (fun r q' => r = none ∧ q' = emL q l) := by
  induction l with
  | nil =>
    intro q p E hs ht h1 h2
    simp at ht h2
    refine rx (xs_iload_n dm_Re_emitRow_2 rfl) ?_
    refine rx (xs_iload_n dm_Re_emitRow_3 rfl) ?_
    refine rx (xs_icmp_ge_t (tgt := 23) dm_Re_emitRow_4 rfl (by unfold ir; omega) (by unfold ir; omega) (by omega)) ?_
    exact rrv dm_Re_emitRow_23 rfl ⟨rfl, rfl⟩
  | cons x l ih =>
    intro q p E hs ht h1 h2
    simp only [List.length_cons] at ht h2
    refine rx (xs_iload_n dm_Re_emitRow_2 rfl) ?_
    refine rx (xs_iload_n dm_Re_emitRow_3 rfl) ?_
    refine rx (xs_icmp_ge_f (tgt := 23) dm_Re_emitRow_4 rfl (by unfold ir; omega) (by unfold ir; omega) (by omega)) ?_
    refine rx (xs_aload_n dm_Re_emitRow_7 rfl) ?_
    refine rx (xs_aload_n dm_Re_emitRow_8 rfl) ?_
    refine rx (rg (v := .inr (some (rA E 0))) dm_Re_emitRow_9 lf_Re_7 rfl) ?_
    refine rx (xs_iload_n dm_Re_emitRow_12 rfl) ?_
    refine rx (rlv 0 x (by decide) dm_Re_emitRow_13 (by omega) (by show _ < ((10000 : Nat) : Int); omega) (by rw [Int.toNat_natCast]; exact sg_hd hs)) ?_
    refine rcV (as := [.inl x]) (rest := []) dm_Re_emitRow_14 lc_Re_emit lm_Re_32 li_Re_emit (nr rfl rfl) rfl rfl rfl (nl rfl) (re_emit (x := x) (by omega) (by omega)) ?_
    rintro _ _ ⟨rfl, rfl⟩
    show rX E _ 17 [some (.inr (some E.1.length)), some (.inl f), some (.inl t), some (.inl (p : Int))] [] _ _
    refine rx (xs_iinc dm_Re_emitRow_17 rfl (by decide)) ?_
    show rX E _ 20 [some (.inr (some E.1.length)), some (.inl f), some (.inl t), some (.inl ((p : Int) + 1))] [] _ _
    refine rx (xs_goto (tgt := 2) dm_Re_emitRow_20 rfl) ?_
    have e1 : ((p : Int) + 1) = ((p + 1 : Nat) : Int) := by omega
    rw [e1]
    have k := ih (q := em q x) (p := p + 1) E (sg_mono (sg_tl hs) (fun k h3 h4 => em_mem (by omega))) (by omega) (by rw [em_out]; omega) (by rw [em_out]; omega)
    exact k
set_option maxHeartbeats 4000000 in
set_option maxRecDepth 100000 in
theorem re_emitRow {q : rS} {f t : Int} {p : Nat} {l : List Int} (hs : sg q p l) (hf : f = (p : Int)) (ht : t = (p : Int) + (l.length : Int)) (h1 : t ≤ q 6 5) (h2 : q 6 5 + (l.length : Int) ≤ 10000) : rM mm_Re_emitRow [.inl f, .inl t] q (fun r q' => r = none ∧ q' = emL q l) := by
  refine rm rfl (nl rfl) (fun E => ?_)
  subst hf
  show rX E _ 0 [some (.inr (some E.1.length)), some (.inl (p : Int)), some (.inl t), none] [] _ _
  refine rx (xs_iload_n dm_Re_emitRow_0 rfl) ?_
  refine rx (xs_istore_n dm_Re_emitRow_1 (by decide)) ?_
  show rX E _ 2 [some (.inr (some E.1.length)), some (.inl (p : Int)), some (.inl t), some (.inl (p : Int))] [] _ _
  exact re_emitRow_l _ l E hs ht.symm h1 h2
