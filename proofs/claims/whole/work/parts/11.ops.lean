/-! what the rules do to a term's row -/
section OP
variable {G : List (List Int)} {a b t f x : List Int}
/-- where 10 stands a variable stands -/
theorem isTm_10 (h : isTm G t a) : ∀ (i : Nat), t[i]? = some 10 → ∃ (m : Int) (c r : List Int), isTy c ∧ 0 ≤ m ∧ m ≤ 7 ∧ t.drop i = 10 :: m :: (c ++ r) := by
  have low : ∀ (l : List Int), (∀ s ∈ l, s < 10) → ∀ i : Nat, l[i]? = some 10 → False := by
    intro l hl i hi
    have := hl 10 (List.mem_of_getElem? hi)
    omega
  refine isTm_ind (P := fun _ t _ => ∀ (i : Nat), t[i]? = some 10 → ∃ (m : Int) (c r : List Int), isTy c ∧ 0 ≤ m ∧ m ≤ 7 ∧ t.drop i = 10 :: m :: (c ++ r)) ?_ ?_ ?_ ?_ ?_ ?_ h
  · intro G n a h0 h7 ha i hi
    cases i with
    | zero => exact ⟨n, a, [], ha, h0, h7, by simp⟩
    | succ i =>
      cases i with
      | zero => simp at hi; omega
      | succ i => simp at hi; exact (low a (isTy_low ha) i hi).elim
  · intro G n a h0 h7 ha i hi
    cases i with
    | zero => simp at hi
    | succ i =>
      cases i with
      | zero => simp at hi; omega
      | succ i => simp at hi; exact (low a (isTy_low ha) i hi).elim
  · intro G a ha i hi
    cases i with
    | zero => simp at hi
    | succ i =>
      cases i with
      | zero => simp at hi
      | succ i => simp at hi; exact (low a (isTy_low ha) i hi).elim
  · intro G d a hd ha i hi
    cases i with
    | zero => simp at hi; omega
    | succ i => simp at hi
  · intro G f x a b _ _ _ _ hf hx i hi
    cases i with
    | zero => simp at hi
    | succ i =>
      simp at hi
      by_cases hl : i < f.length
      · rw [List.getElem?_append_left hl] at hi
        obtain ⟨m, c, r, h1, h2, h3, h4⟩ := hf i hi
        refine ⟨m, c, r ++ x, h1, h2, h3, ?_⟩
        simp only [List.drop_succ_cons]
        rw [List.drop_append_of_le_length (by omega), h4]
        simp
      · rw [List.getElem?_append_right (by omega)] at hi
        obtain ⟨m, c, r, h1, h2, h3, h4⟩ := hx _ hi
        refine ⟨m, c, r, h1, h2, h3, ?_⟩
        simp only [List.drop_succ_cons]
        rw [List.drop_append, List.drop_eq_nil_of_le (by omega), List.nil_append]
        exact h4
  · intro G a t b ha _ _ ht i hi
    cases i with
    | zero => simp at hi
    | succ i =>
      simp at hi
      by_cases hl : i < a.length
      · rw [List.getElem?_append_left hl] at hi
        exact (low a (isTy_low ha) i hi).elim
      · rw [List.getElem?_append_right (by omega)] at hi
        obtain ⟨m, c, r, h1, h2, h3, h4⟩ := ht _ hi
        refine ⟨m, c, r, h1, h2, h3, ?_⟩
        simp only [List.drop_succ_cons]
        rw [List.drop_append, List.drop_eq_nil_of_le (by omega), List.nil_append]
        exact h4
theorem isTm_13 (h : isTm G t a) : ∀ (i : Nat), t[i]? = some 13 → ∃ (D : List (List Int)) (u c r : List Int), isTm D u c ∧ t.drop i = u ++ r ∧ hdT r ∧ D.length ≤ G.length + t.length := by
  have low : ∀ (l : List Int), (∀ s ∈ l, s < 10) → ∀ i : Nat, l[i]? = some 13 → False := by
    intro l hl i hi
    have := hl 13 (List.mem_of_getElem? hi)
    omega
  refine isTm_ind (P := fun G t _ => ∀ (i : Nat), t[i]? = some 13 → ∃ (D : List (List Int)) (u c r : List Int), isTm D u c ∧ t.drop i = u ++ r ∧ hdT r ∧ D.length ≤ G.length + t.length) ?_ ?_ ?_ ?_ ?_ ?_ h
  · intro G n a h0 h7 ha i hi
    cases i with
    | zero => simp at hi
    | succ i =>
      cases i with
      | zero => simp at hi; omega
      | succ i => simp at hi; exact (low a (isTy_low ha) i hi).elim
  · intro G n a h0 h7 ha i hi
    cases i with
    | zero => simp at hi
    | succ i =>
      cases i with
      | zero => simp at hi; omega
      | succ i => simp at hi; exact (low a (isTy_low ha) i hi).elim
  · intro G a ha i hi
    cases i with
    | zero => simp at hi
    | succ i =>
      cases i with
      | zero => simp at hi
      | succ i => simp at hi; exact (low a (isTy_low ha) i hi).elim
  · intro G d a hd ha i hi
    cases i with
    | zero => simp at hi; omega
    | succ i => simp at hi
  · intro G f x a b _ _ _ hx0 hf hx i hi
    cases i with
    | zero => simp at hi
    | succ i =>
      simp at hi
      by_cases hl : i < f.length
      · rw [List.getElem?_append_left hl] at hi
        obtain ⟨D, u, c, r, h1, h2, h3, h4⟩ := hf i hi
        refine ⟨D, u, c, r ++ x, h1, ?_, ?_, by simp; omega⟩
        · simp only [List.drop_succ_cons]
          rw [List.drop_append_of_le_length (by omega), h2]
          simp
        · rcases h3 with h3 | ⟨s, l, h3, hs⟩
          · subst h3; exact (by have := isTm_hdT hx0 []; simpa using this)
          · subst h3; exact Or.inr ⟨s, l ++ x, rfl, hs⟩
      · rw [List.getElem?_append_right (by omega)] at hi
        obtain ⟨D, u, c, r, h1, h2, h3, h4⟩ := hx _ hi
        refine ⟨D, u, c, r, h1, ?_, h3, by simp; omega⟩
        simp only [List.drop_succ_cons]
        rw [List.drop_append, List.drop_eq_nil_of_le (by omega), List.nil_append]
        exact h2
  · intro G a t b ha hb ht0 ht i hi
    cases i with
    | zero => exact ⟨G, 13 :: (a ++ t), _, [], isTm_l ha hb ht0, by simp, Or.inl rfl, by omega⟩
    | succ i =>
      simp at hi
      by_cases hl : i < a.length
      · rw [List.getElem?_append_left hl] at hi
        exact (low a (isTy_low ha) i hi).elim
      · rw [List.getElem?_append_right (by omega)] at hi
        obtain ⟨D, u, c, r, h1, h2, h3, h4⟩ := ht _ hi
        refine ⟨D, u, c, r, h1, ?_, h3, by simp at h4 ⊢; omega⟩
        simp only [List.drop_succ_cons]
        rw [List.drop_append, List.drop_eq_nil_of_le (by omega), List.nil_append]
        exact h2
/-! a variable's row at the front -/
theorem pf_v {n m : Int} {c a r : List Int} (hc : isTy c) (ha : isTy a) : (10 :: n :: c).isPrefixOf (10 :: m :: (a ++ r)) = true ↔ n = m ∧ c = a := by
  rw [List.isPrefixOf_iff_prefix]
  constructor
  · rintro ⟨z, e⟩
    simp at e
    exact ⟨e.1, (isTy_cut hc ha e.2).1⟩
  · rintro ⟨e1, e2⟩
    subst e1; subst e2
    exact ⟨r, by simp⟩
theorem pf_n {s n : Int} {c l : List Int} (hs : ¬ s = 10) : (10 :: n :: c).isPrefixOf (s :: l) = false := by
  simp [List.isPrefixOf]
  intro h
  exact absurd h.symm hs
/-! a variable replaced by a term -/
def rplC (v u : List Int) : List Int → Nat → List Int
  | [], _ => []
  | s :: l, k => if v.isPrefixOf (s :: l) = true then u ++ rplC v u l (v.length - 1) else if k = 0 then s :: rplC v u l 0 else rplC v u l (k - 1)
section RP
variable {n : Int} {c u : List Int}
theorem rpl_low {l : List Int} (hl : ∀ s ∈ l, s < 10) (r : List Int) : rplC (10 :: n :: c) u (l ++ r) 0 = l ++ rplC (10 :: n :: c) u r 0 := by
  induction l with
  | nil => rfl
  | cons s l ih =>
    have h1 : ¬ s = 10 := by have := hl s List.mem_cons_self; omega
    simp [rplC, pf_n h1, ih (fun z hz => hl z (List.mem_cons_of_mem _ hz))]
theorem rpl_skip {l : List Int} (hl : ∀ s ∈ l, s < 10) (r : List Int) : rplC (10 :: n :: c) u (l ++ r) l.length = rplC (10 :: n :: c) u r 0 := by
  induction l with
  | nil => rfl
  | cons s l ih =>
    have h1 : ¬ s = 10 := by have := hl s List.mem_cons_self; omega
    simp [rplC, pf_n h1, ih (fun z hz => hl z (List.mem_cons_of_mem _ hz))]
theorem rpl_hit (hn : n < 10) (hc : isTy c) (r : List Int) : rplC (10 :: n :: c) u (10 :: n :: (c ++ r)) 0 = u ++ rplC (10 :: n :: c) u r 0 := by
  have h1 : (10 :: n :: c).isPrefixOf (10 :: n :: (c ++ r)) = true := (pf_v hc hc).mpr ⟨rfl, rfl⟩
  have hl : ∀ s ∈ n :: c, s < 10 := by
    intro s hs
    rcases List.mem_cons.mp hs with h | h
    · omega
    · exact isTy_low hc s h
  have h2 := rpl_skip (n := n) (c := c) (u := u) hl r
  rw [rplC, if_pos h1]
  simp only [List.length_cons, Nat.add_sub_cancel, List.cons_append] at h2 ⊢
  rw [h2]
theorem rpl_tm (hn : n < 10) (hc : isTy c) (hu : isTm [] u c) (h : isTm G t b) : ∃ t', isTm G t' b ∧ ∀ r, rplC (10 :: n :: c) u (t ++ r) 0 = t' ++ rplC (10 :: n :: c) u r 0 := by
  refine isTm_ind (P := fun G t b => ∃ t', isTm G t' b ∧ ∀ r, rplC (10 :: n :: c) u (t ++ r) 0 = t' ++ rplC (10 :: n :: c) u r 0) ?_ ?_ ?_ ?_ ?_ ?_ h
  · intro G m a h0 h7 ha
    by_cases he : n = m ∧ c = a
    · obtain ⟨e1, e2⟩ := he
      subst e1; subst e2
      exact ⟨u, isTm_weak hu G, fun r => by have := rpl_hit (u := u) hn hc r; simpa using this⟩
    · refine ⟨10 :: m :: a, isTm_v h0 h7 ha, fun r => ?_⟩
      have h1 : ¬ (10 :: n :: c).isPrefixOf (10 :: m :: (a ++ r)) = true := fun q => he ((pf_v hc ha).mp q)
      have hm : ¬ m = 10 := by omega
      simp only [List.cons_append]
      rw [rplC, if_neg h1, if_pos rfl, rplC, pf_n hm, if_neg (by decide), if_pos rfl, rpl_low (isTy_low ha)]
  · intro G m a h0 h7 ha
    refine ⟨11 :: m :: a, isTm_c h0 h7 ha, fun r => ?_⟩
    have hm : ¬ m = 10 := by omega
    simp only [List.cons_append]
    rw [rplC, pf_n (by decide), if_neg (by decide), if_pos rfl, rplC, pf_n hm, if_neg (by decide), if_pos rfl, rpl_low (isTy_low ha)]
  · intro G a ha
    refine ⟨11 :: 0 :: a, isTm_e ha, fun r => ?_⟩
    simp only [List.cons_append]
    rw [rplC, pf_n (by decide), if_neg (by decide), if_pos rfl, rplC, pf_n (by decide), if_neg (by decide), if_pos rfl, rpl_low (isTy_low ha)]
  · intro G d a hd ha
    refine ⟨[20 + (d : Int)], isTm_b hd ha, fun r => ?_⟩
    have hm : ¬ (20 + (d : Int)) = 10 := by omega
    simp only [List.cons_append, List.nil_append]
    rw [rplC, pf_n hm, if_neg (by decide), if_pos rfl]
  · intro G f x a b ha hb _ _ hf hx
    obtain ⟨f', hf1, hf2⟩ := hf
    obtain ⟨x', hx1, hx2⟩ := hx
    refine ⟨12 :: (f' ++ x'), isTm_a ha hb hf1 hx1, fun r => ?_⟩
    simp only [List.cons_append, List.append_assoc]
    rw [rplC, pf_n (by decide), if_neg (by decide), if_pos rfl, hf2, hx2]
  · intro G a t b ha hb _ ht
    obtain ⟨t', ht1, ht2⟩ := ht
    refine ⟨13 :: (a ++ t'), isTm_l ha hb ht1, fun r => ?_⟩
    simp only [List.cons_append, List.append_assoc]
    rw [rplC, pf_n (by decide), if_neg (by decide), if_pos rfl, rpl_low (isTy_low ha), ht2]
theorem rpl_ok (hn : n < 10) (hc : isTy c) (hu : isTm [] u c) (h : isTm G t b) : isTm G (rplC (10 :: n :: c) u t 0) b := by
  obtain ⟨t', h1, h2⟩ := rpl_tm hn hc hu h
  have := h2 []
  simp [rplC] at this
  rw [this]
  exact h1
end RP
end OP
