/-! how many abstractions stand around: by the class's way (a stack of what is still to come) and by the reference's (ends of abstractions) -/
def dpP (R : List Int) (m : Int) : List Int := R.dropWhile (fun r => decide (m ≤ r))
def dpS (s : Int) (q : List Int × Int) : List Int × Int :=
  if s < 10 then q else if s = 12 then (dpP q.1 q.2, q.2 + 1) else if s = 13 then ((q.2 - 1) :: dpP q.1 q.2, q.2) else (dpP q.1 q.2, q.2 - 1)
theorem dpP_lo {R : List Int} {m m' : Int} (h : m' ≤ m) : dpP (dpP R m) m' = dpP R m' := by
  unfold dpP
  induction R with
  | nil => rfl
  | cons r R ih =>
    by_cases hr : m ≤ r
    · have h1 : m' ≤ r := by omega
      simp [List.dropWhile_cons, hr, h1, ih]
    · simp [List.dropWhile_cons, hr]
theorem dpP_up {R : List Int} {m m' : Int} (h : m ≤ m') : dpP (dpP R m) m' = dpP R m := by
  unfold dpP
  induction R with
  | nil => rfl
  | cons r R ih =>
    by_cases hr : m ≤ r
    · simp [List.dropWhile_cons, hr, ih]
    · have h1 : ¬ m' ≤ r := by omega
      simp [List.dropWhile_cons, hr, h1]
theorem dpP_le (R : List Int) (m : Int) : (dpP R m).length ≤ R.length := by
  unfold dpP
  induction R with
  | nil => simp
  | cons r R ih =>
    by_cases hr : m ≤ r
    · simp [List.dropWhile_cons, hr]; omega
    · simp [List.dropWhile_cons, hr]
def szT (l : List Int) : Nat := l.length - (tmS l 1).length
theorem szT_tm {G : List (List Int)} {t a r : List Int} (h : isTm G t a) (hr : hdT r) : szT (t ++ r) = t.length := by
  unfold szT
  rw [tmS_tm h r 0, tmS_0 hr]
  simp
def cnt (E : List Nat) (p : Nat) : Nat := (E.filter (fun e => decide (p < e))).length
theorem cnt_app (E F : List Nat) (p : Nat) : cnt (E ++ F) p = cnt E p + cnt F p := by
  unfold cnt
  simp
theorem cnt_0 {E : List Nat} {p : Nat} (h : ∀ e ∈ E, e ≤ p) : cnt E p = 0 := by
  unfold cnt
  rw [List.length_eq_zero_iff, List.filter_eq_nil_iff]
  intro e he
  have := h e he
  simp
  omega
theorem cnt_eq {E : List Nat} {p p' : Nat} (h : ∀ e ∈ E, p < e ↔ p' < e) : cnt E p = cnt E p' := by
  unfold cnt
  congr 1
  apply List.filter_congr
  intro e he
  have := h e he
  simp [this]
/-! a variable bound -/
def absC (v : List Int) : List Int → List Int × Int → Nat → List Int
  | [], _, _ => []
  | s :: l, q, k => if v.isPrefixOf (s :: l) = true then (20 + ((dpS s q).1.length : Int)) :: absC v l (dpS s q) (v.length - 1) else if k = 0 then s :: absC v l (dpS s q) 0 else absC v l (dpS s q) (k - 1)
def absR (v : List Int) : List Int → Nat → List Nat → Nat → List Int
  | [], _, _, _ => []
  | s :: l, p, E, k => if k = 0 then (if v.isPrefixOf (s :: l) = true then (20 + (cnt E p : Int)) :: absR v l (p + 1) (if s = 13 then (p + szT (s :: l)) :: E else E) (v.length - 1) else s :: absR v l (p + 1) (if s = 13 then (p + szT (s :: l)) :: E else E) 0) else absR v l (p + 1) (if s = 13 then (p + szT (s :: l)) :: E else E) (k - 1)
section AB
variable {G : List (List Int)} {b t c : List Int} {n : Int}
theorem dpS_low {s : Int} (h : s < 10) (q : List Int × Int) : dpS s q = q := by
  unfold dpS
  rw [if_pos h]
theorem absC_low {l : List Int} (hl : ∀ s ∈ l, s < 10) (r : List Int) (q : List Int × Int) : absC (10 :: n :: c) (l ++ r) q 0 = l ++ absC (10 :: n :: c) r q 0 := by
  induction l with
  | nil => rfl
  | cons s l ih =>
    have h0 := hl s List.mem_cons_self
    have h1 : ¬ s = 10 := by omega
    simp [absC, pf_n h1, dpS_low h0, ih (fun z hz => hl z (List.mem_cons_of_mem _ hz))]
theorem absC_skip {l : List Int} (hl : ∀ s ∈ l, s < 10) (r : List Int) (q : List Int × Int) : absC (10 :: n :: c) (l ++ r) q l.length = absC (10 :: n :: c) r q 0 := by
  induction l with
  | nil => rfl
  | cons s l ih =>
    have h0 := hl s List.mem_cons_self
    have h1 : ¬ s = 10 := by omega
    simp [absC, pf_n h1, dpS_low h0, ih (fun z hz => hl z (List.mem_cons_of_mem _ hz))]
theorem absR_low {l : List Int} (hl : ∀ s ∈ l, s < 10) (r : List Int) (E : List Nat) : ∀ p, absR (10 :: n :: c) (l ++ r) p E 0 = l ++ absR (10 :: n :: c) r (p + l.length) E 0 := by
  induction l with
  | nil => intro p; rfl
  | cons s l ih =>
    intro p
    have h0 := hl s List.mem_cons_self
    have h1 : ¬ s = 10 := by omega
    have h2 : ¬ s = 13 := by omega
    simp [absR, pf_n h1, h2, ih (fun z hz => hl z (List.mem_cons_of_mem _ hz))]
    congr 1
    omega
theorem absR_skip {l : List Int} (hl : ∀ s ∈ l, s < 10) (r : List Int) (E : List Nat) : ∀ p, absR (10 :: n :: c) (l ++ r) p E l.length = absR (10 :: n :: c) r (p + l.length) E 0 := by
  induction l with
  | nil => intro p; rfl
  | cons s l ih =>
    intro p
    have h0 := hl s List.mem_cons_self
    have h2 : ¬ s = 13 := by omega
    simp [absR, h2, ih (fun z hz => hl z (List.mem_cons_of_mem _ hz))]
    congr 1
    omega
theorem abs_low {m : Int} {a : List Int} (hm : m < 10) (ha : isTy a) : ∀ s ∈ m :: a, s < 10 := by
  intro s hs
  rcases List.mem_cons.mp hs with h | h
  · omega
  · exact isTy_low ha s h
/-- both ways write one term -/
theorem abs_tm (hn : n < 10) (hc : isTy c) (h : isTm G t b) : ∃ t', isTm (G ++ [c]) t' b ∧
    (∀ R m r, (dpP R m).length = G.length → ∃ R', dpP R' (m - 1) = dpP R (m - 1) ∧ absC (10 :: n :: c) (t ++ r) (R, m) 0 = t' ++ absC (10 :: n :: c) r (R', m - 1) 0) ∧
    (∀ p E r, hdT r → cnt E p = G.length → (∀ e ∈ E, e ≤ p ∨ p + t.length ≤ e) → ∃ E', (∀ e ∈ E', e ≤ p + t.length) ∧ absR (10 :: n :: c) (t ++ r) p E 0 = t' ++ absR (10 :: n :: c) r (p + t.length) (E' ++ E) 0) := by
  refine isTm_ind (P := fun G t b => ∃ t', isTm (G ++ [c]) t' b ∧
    (∀ R m r, (dpP R m).length = G.length → ∃ R', dpP R' (m - 1) = dpP R (m - 1) ∧ absC (10 :: n :: c) (t ++ r) (R, m) 0 = t' ++ absC (10 :: n :: c) r (R', m - 1) 0) ∧
    (∀ p E r, hdT r → cnt E p = G.length → (∀ e ∈ E, e ≤ p ∨ p + t.length ≤ e) → ∃ E', (∀ e ∈ E', e ≤ p + t.length) ∧ absR (10 :: n :: c) (t ++ r) p E 0 = t' ++ absR (10 :: n :: c) r (p + t.length) (E' ++ E) 0)) ?_ ?_ ?_ ?_ ?_ ?_ h
  · intro G m a h0 h7 ha
    have hm : m < 10 := by omega
    by_cases he : n = m ∧ c = a
    · obtain ⟨e1, e2⟩ := he
      subst e1; subst e2
      refine ⟨[20 + (G.length : Int)], isTm_b (by simp) hc, ?_, ?_⟩
      · intro R m r hR
        refine ⟨dpP R m, dpP_lo (by omega), ?_⟩
        have h1 : (10 :: n :: c).isPrefixOf (10 :: n :: (c ++ r)) = true := (pf_v hc hc).mpr ⟨rfl, rfl⟩
        have h2 := absC_skip (n := n) (c := c) (l := n :: c) (abs_low hn hc) r (dpP R m, m - 1)
        have h3 : dpS 10 (R, m) = (dpP R m, m - 1) := by simp [dpS]
        simp only [List.cons_append, List.nil_append]
        rw [absC, if_pos h1, h3]
        simp only [List.length_cons, Nat.add_sub_cancel, List.cons_append, hR] at h2 ⊢
        rw [h2]
      · intro p E r hr hE _
        refine ⟨[], by simp, ?_⟩
        have h1 : (10 :: n :: c).isPrefixOf (10 :: n :: (c ++ r)) = true := (pf_v hc hc).mpr ⟨rfl, rfl⟩
        have h2 := absR_skip (n := n) (c := c) (l := n :: c) (abs_low hn hc) r E (p + 1)
        simp only [List.cons_append, List.nil_append]
        rw [absR, if_pos rfl, if_pos h1, if_neg (by decide), hE]
        simp only [List.length_cons, Nat.add_sub_cancel, List.cons_append] at h2 ⊢
        rw [h2]
        congr 2
        omega
    · refine ⟨10 :: m :: a, isTm_v h0 h7 ha, ?_, ?_⟩
      · intro R m' r hR
        refine ⟨dpP R m', dpP_lo (by omega), ?_⟩
        have h1 : ¬ (10 :: n :: c).isPrefixOf (10 :: m :: (a ++ r)) = true := fun q => he ((pf_v hc ha).mp q)
        have h3 : dpS 10 (R, m') = (dpP R m', m' - 1) := by simp [dpS]
        have h4 := absC_low (n := n) (c := c) (l := m :: a) (abs_low hm ha) r (dpP R m', m' - 1)
        simp only [List.cons_append] at h4 ⊢
        rw [absC, if_neg h1, if_pos rfl, h3, h4]
      · intro p E r hr hE _
        refine ⟨[], by simp, ?_⟩
        have h1 : ¬ (10 :: n :: c).isPrefixOf (10 :: m :: (a ++ r)) = true := fun q => he ((pf_v hc ha).mp q)
        have h4 := absR_low (n := n) (c := c) (l := m :: a) (abs_low hm ha) r E (p + 1)
        simp only [List.cons_append, List.nil_append] at h4 ⊢
        rw [absR, if_pos rfl, if_neg h1, if_neg (by decide), h4]
        simp only [List.length_cons]
        congr 4
        omega
  · intro G m a h0 h7 ha
    have hm : m < 10 := by omega
    refine ⟨11 :: m :: a, isTm_c h0 h7 ha, ?_, ?_⟩
    · intro R m' r hR
      refine ⟨dpP R m', dpP_lo (by omega), ?_⟩
      have h3 : dpS 11 (R, m') = (dpP R m', m' - 1) := by simp [dpS]
      have h4 := absC_low (n := n) (c := c) (l := m :: a) (abs_low hm ha) r (dpP R m', m' - 1)
      simp only [List.cons_append] at h4 ⊢
      rw [absC, pf_n (by decide), if_neg (by decide), if_pos rfl, h3, h4]
    · intro p E r hr hE _
      refine ⟨[], by simp, ?_⟩
      have h4 := absR_low (n := n) (c := c) (l := m :: a) (abs_low hm ha) r E (p + 1)
      simp only [List.cons_append, List.nil_append] at h4 ⊢
      rw [absR, if_pos rfl, pf_n (by decide), if_neg (by decide), if_neg (by decide), h4]
      simp only [List.length_cons]
      congr 4
      omega
  · intro G a ha
    refine ⟨11 :: 0 :: a, isTm_e ha, ?_, ?_⟩
    · intro R m' r hR
      refine ⟨dpP R m', dpP_lo (by omega), ?_⟩
      have h3 : dpS 11 (R, m') = (dpP R m', m' - 1) := by simp [dpS]
      have h4 := absC_low (n := n) (c := c) (l := 0 :: a) (abs_low (by omega) ha) r (dpP R m', m' - 1)
      simp only [List.cons_append] at h4 ⊢
      rw [absC, pf_n (by decide), if_neg (by decide), if_pos rfl, h3, h4]
    · intro p E r hr hE _
      refine ⟨[], by simp, ?_⟩
      have h4 := absR_low (n := n) (c := c) (l := 0 :: a) (abs_low (by omega) ha) r E (p + 1)
      simp only [List.cons_append, List.nil_append] at h4 ⊢
      rw [absR, if_pos rfl, pf_n (by decide), if_neg (by decide), if_neg (by decide), h4]
      simp only [List.length_cons]
      congr 4
      omega
  · intro G d a hd ha
    have e1 : ¬ (20 + (d : Int)) = 10 := by omega
    have e2 : ¬ (20 + (d : Int)) < 10 := by omega
    have e3 : ¬ (20 + (d : Int)) = 12 := by omega
    have e4 : ¬ (20 + (d : Int)) = 13 := by omega
    refine ⟨[20 + (d : Int)], isTm_b (by rw [List.getElem?_append_left (List.getElem?_eq_some_iff.mp hd).1]; exact hd) ha, ?_, ?_⟩
    · intro R m' r hR
      refine ⟨dpP R m', dpP_lo (by omega), ?_⟩
      have h3 : dpS (20 + (d : Int)) (R, m') = (dpP R m', m' - 1) := by simp [dpS, e2, e3, e4]
      simp only [List.cons_append, List.nil_append]
      rw [absC, pf_n e1, if_neg (by decide), if_pos rfl, h3]
    · intro p E r hr hE _
      refine ⟨[], by simp, ?_⟩
      simp only [List.cons_append, List.nil_append]
      rw [absR, if_pos rfl, pf_n e1, if_neg (by decide), if_neg e4]
      simp
  · intro G f x a b ha hb hf0 hx0 hf hx
    obtain ⟨f', hf1, hf2, hf3⟩ := hf
    obtain ⟨x', hx1, hx2, hx3⟩ := hx
    refine ⟨12 :: (f' ++ x'), isTm_a ha hb hf1 hx1, ?_, ?_⟩
    · intro R m r hR
      have h3 : dpS 12 (R, m) = (dpP R m, m + 1) := by simp [dpS]
      obtain ⟨R2, k1, k2⟩ := hf2 (dpP R m) (m + 1) (x ++ r) (by rw [dpP_up (by omega)]; exact hR)
      rw [show m + 1 - 1 = m by omega] at k1 k2
      rw [dpP_lo (Int.le_refl _)] at k1
      obtain ⟨R3, k3, k4⟩ := hx2 R2 m r (by rw [k1]; exact hR)
      refine ⟨R3, ?_, ?_⟩
      · rw [k3, ← dpP_lo (R := R2) (m := m) (by omega), k1, dpP_lo (by omega)]
      · simp only [List.cons_append, List.append_assoc]
        rw [absC, pf_n (by decide), if_neg (by decide), if_pos rfl, h3, k2, k4]
    · intro p E r hr hE hE2
      have hlf := isTm_len hf0
      have hlx := isTm_len hx0
      simp only [List.length_cons, List.length_append] at hE2
      obtain ⟨E1, k1, k2⟩ := hf3 (p + 1) E (x ++ r) (isTm_hdT hx0 r) (by rw [← hE]; exact cnt_eq (fun e he => by have := hE2 e he; omega)) (fun e he => by have := hE2 e he; omega)
      obtain ⟨E2, k3, k4⟩ := hx3 (p + 1 + f.length) (E1 ++ E) r hr (by rw [cnt_app, cnt_0 k1, ← hE, Nat.zero_add]; exact cnt_eq (fun e he => by have := hE2 e he; omega)) (fun e he => by
        rcases List.mem_append.mp he with he | he
        · exact Or.inl (k1 e he)
        · have := hE2 e he; omega)
      refine ⟨E2 ++ E1, fun e he => ?_, ?_⟩
      · simp only [List.length_cons, List.length_append]
        rcases List.mem_append.mp he with he | he
        · have := k3 e he; omega
        · have := k1 e he; omega
      · simp only [List.cons_append, List.append_assoc]
        rw [absR, if_pos rfl, pf_n (by decide), if_neg (by decide), if_neg (by decide), k2, k4]
        simp only [List.length_cons, List.length_append, List.append_assoc]
        congr 4
        omega
  · intro G a t b ha hb ht0 ht
    obtain ⟨t', ht1, ht2, ht3⟩ := ht
    refine ⟨13 :: (a ++ t'), isTm_l ha hb ht1, ?_, ?_⟩
    · intro R m r hR
      have h3 : dpS 13 (R, m) = ((m - 1) :: dpP R m, m) := by simp [dpS]
      have h5 : dpP ((m - 1) :: dpP R m) m = (m - 1) :: dpP R m := by
        have : ¬ m ≤ m - 1 := by omega
        simp [dpP, List.dropWhile_cons, this]
      obtain ⟨R2, k1, k2⟩ := ht2 ((m - 1) :: dpP R m) m r (by rw [h5]; simp [hR])
      refine ⟨R2, ?_, ?_⟩
      · rw [k1]
        have : dpP ((m - 1) :: dpP R m) (m - 1) = dpP (dpP R m) (m - 1) := by simp [dpP, List.dropWhile_cons]
        rw [this, dpP_lo (by omega)]
      · simp only [List.cons_append, List.append_assoc]
        rw [absC, pf_n (by decide), if_neg (by decide), if_pos rfl, h3, absC_low (isTy_low ha), k2]
    · intro p E r hr hE hE2
      have hlt := isTm_len ht0
      simp only [List.length_cons, List.length_append] at hE2
      have hz := szT_tm (isTm_l ha hb ht0) hr
      obtain ⟨E1, k1, k2⟩ := ht3 (p + 1 + a.length) ((p + (a.length + t.length + 1)) :: E) r hr (by
          have e0 : cnt ((p + (a.length + t.length + 1)) :: E) (p + 1 + a.length) = 1 + cnt E (p + 1 + a.length) := by
            have : p + 1 + a.length < p + (a.length + t.length + 1) := by omega
            simp [cnt, this]; omega
          rw [e0, cnt_eq (E := E) (p := p + 1 + a.length) (p' := p) (fun e he => by have := hE2 e he; omega), hE]
          simp; omega) (fun e he => by
        rcases List.mem_cons.mp he with he | he
        · subst he; right; omega
        · have := hE2 e he; omega)
      refine ⟨E1 ++ [p + (a.length + t.length + 1)], fun e he => ?_, ?_⟩
      · simp only [List.length_cons, List.length_append]
        rcases List.mem_append.mp he with he | he
        · have := k1 e he; omega
        · simp at he; omega
      · simp only [List.cons_append, List.append_assoc] at hz ⊢
        rw [absR, if_pos rfl, pf_n (by decide), if_neg (by decide), if_pos rfl, hz, absR_low (isTy_low ha)]
        simp only [List.length_cons, List.length_append, List.nil_append, List.singleton_append, List.cons_append] at k2 ⊢
        rw [k2]
        congr 4
        omega
theorem abs_ok (hn : n < 10) (hc : isTy c) (h : isTm [] t b) : isTm [c] (absC (10 :: n :: c) t ([], 1) 0) b ∧ absR (10 :: n :: c) t 0 [] 0 = absC (10 :: n :: c) t ([], 1) 0 := by
  obtain ⟨t', h1, h2, h3⟩ := abs_tm hn hc h
  obtain ⟨R', -, e1⟩ := h2 [] 1 [] (by rfl)
  obtain ⟨E', -, e2⟩ := h3 0 [] [] (Or.inl rfl) (by rfl) (by simp)
  simp [absC, absR] at e1 e2
  rw [e1, e2]
  exact ⟨by simpa using h1, rfl⟩
end AB
