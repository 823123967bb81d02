/-! an abstraction's own variable replaced by a term -/
def betC (u : List Int) : List Int → List Int × Int → List Int
  | [], _ => []
  | s :: l, q => if s = 20 + ((dpS s q).1.length : Int) then u ++ betC u l (dpS s q) else s :: betC u l (dpS s q)
def betR (u : List Int) : List Int → Nat → List Nat → List Int
  | [], _, _ => []
  | s :: l, p, E => if 20 ≤ s ∧ s - 20 = (cnt E p : Int) then u ++ betR u l (p + 1) (if s = 13 then (p + szT (s :: l)) :: E else E) else s :: betR u l (p + 1) (if s = 13 then (p + szT (s :: l)) :: E else E)
section BE
variable {G : List (List Int)} {b t c u : List Int}
theorem betC_low {l : List Int} (hl : ∀ s ∈ l, s < 10) (r : List Int) (q : List Int × Int) : betC u (l ++ r) q = l ++ betC u r q := by
  induction l with
  | nil => rfl
  | cons s l ih =>
    have h0 := hl s List.mem_cons_self
    have h1 : ¬ s = 20 + ((dpS s q).1.length : Int) := by omega
    rw [List.cons_append, betC, if_neg h1, dpS_low h0, ih (fun z hz => hl z (List.mem_cons_of_mem _ hz))]
    rfl
theorem betC_11 {s : Int} (hs : s < 20) (r : List Int) (q : List Int × Int) : betC u (s :: r) q = s :: betC u r (dpS s q) := by
  have h1 : ¬ s = 20 + ((dpS s q).1.length : Int) := by omega
  rw [betC, if_neg h1]
theorem betR_11 {s : Int} (hs : s < 20) (r : List Int) (p : Nat) (E : List Nat) : betR u (s :: r) p E = s :: betR u r (p + 1) (if s = 13 then (p + szT (s :: r)) :: E else E) := by
  have h1 : ¬ (20 ≤ s ∧ s - 20 = (cnt E p : Int)) := by omega
  rw [betR, if_neg h1]
theorem betR_low {l : List Int} (hl : ∀ s ∈ l, s < 10) (r : List Int) (E : List Nat) : ∀ p, betR u (l ++ r) p E = l ++ betR u r (p + l.length) E := by
  induction l with
  | nil => intro p; rfl
  | cons s l ih =>
    intro p
    have h0 := hl s List.mem_cons_self
    have h2 : ¬ s = 13 := by omega
    rw [List.cons_append, betR_11 (by omega), if_neg h2, ih (fun z hz => hl z (List.mem_cons_of_mem _ hz))]
    simp only [List.cons_append, List.length_cons]
    congr 3
    omega
theorem bet_tm {H : List (List Int)} (hu : isTm [] u c) (h : isTm H t b) : ∀ G, H = G ++ [c] → ∃ t', isTm G t' b ∧
    (∀ R m r, (dpP R m).length = G.length → ∃ R', dpP R' (m - 1) = dpP R (m - 1) ∧ betC u (t ++ r) (R, m) = t' ++ betC u r (R', m - 1)) ∧
    (∀ p E r, hdT r → cnt E p = G.length → (∀ e ∈ E, e ≤ p ∨ p + t.length ≤ e) → ∃ E', (∀ e ∈ E', e ≤ p + t.length) ∧ betR u (t ++ r) p E = t' ++ betR u r (p + t.length) (E' ++ E)) := by
  refine isTm_ind (P := fun H t b => ∀ G, H = G ++ [c] → ∃ t', isTm G t' b ∧
    (∀ R m r, (dpP R m).length = G.length → ∃ R', dpP R' (m - 1) = dpP R (m - 1) ∧ betC u (t ++ r) (R, m) = t' ++ betC u r (R', m - 1)) ∧
    (∀ p E r, hdT r → cnt E p = G.length → (∀ e ∈ E, e ≤ p ∨ p + t.length ≤ e) → ∃ E', (∀ e ∈ E', e ≤ p + t.length) ∧ betR u (t ++ r) p E = t' ++ betR u r (p + t.length) (E' ++ E))) ?_ ?_ ?_ ?_ ?_ ?_ h
  · intro H m a h0 h7 ha G hG
    have hm : m < 10 := by omega
    refine ⟨10 :: m :: a, isTm_v h0 h7 ha, ?_, ?_⟩
    · intro R m' r hR
      refine ⟨dpP R m', dpP_lo (by omega), ?_⟩
      have h3 : dpS 10 (R, m') = (dpP R m', m' - 1) := by simp [dpS]
      have h4 := betC_low (u := u) (l := m :: a) (abs_low hm ha) r (dpP R m', m' - 1)
      simp only [List.cons_append] at h4 ⊢
      rw [betC_11 (by decide), h3, h4]
    · intro p E r hr hE _
      refine ⟨[], by simp, ?_⟩
      have h4 := betR_low (u := u) (l := m :: a) (abs_low hm ha) r E (p + 1)
      simp only [List.cons_append, List.nil_append] at h4 ⊢
      rw [betR_11 (by decide), if_neg (by decide), h4]
      simp only [List.length_cons]
      congr 4
      omega
  · intro H m a h0 h7 ha G hG
    have hm : m < 10 := by omega
    refine ⟨11 :: m :: a, isTm_c h0 h7 ha, ?_, ?_⟩
    · intro R m' r hR
      refine ⟨dpP R m', dpP_lo (by omega), ?_⟩
      have h3 : dpS 11 (R, m') = (dpP R m', m' - 1) := by simp [dpS]
      have h4 := betC_low (u := u) (l := m :: a) (abs_low hm ha) r (dpP R m', m' - 1)
      simp only [List.cons_append] at h4 ⊢
      rw [betC_11 (by decide), h3, h4]
    · intro p E r hr hE _
      refine ⟨[], by simp, ?_⟩
      have h4 := betR_low (u := u) (l := m :: a) (abs_low hm ha) r E (p + 1)
      simp only [List.cons_append, List.nil_append] at h4 ⊢
      rw [betR_11 (by decide), if_neg (by decide), h4]
      simp only [List.length_cons]
      congr 4
      omega
  · intro H a ha G hG
    refine ⟨11 :: 0 :: a, isTm_e ha, ?_, ?_⟩
    · intro R m' r hR
      refine ⟨dpP R m', dpP_lo (by omega), ?_⟩
      have h3 : dpS 11 (R, m') = (dpP R m', m' - 1) := by simp [dpS]
      have h4 := betC_low (u := u) (l := 0 :: a) (abs_low (by omega) ha) r (dpP R m', m' - 1)
      simp only [List.cons_append] at h4 ⊢
      rw [betC_11 (by decide), h3, h4]
    · intro p E r hr hE _
      refine ⟨[], by simp, ?_⟩
      have h4 := betR_low (u := u) (l := 0 :: a) (abs_low (by omega) ha) r E (p + 1)
      simp only [List.cons_append, List.nil_append] at h4 ⊢
      rw [betR_11 (by decide), if_neg (by decide), h4]
      simp only [List.length_cons]
      congr 4
      omega
  · intro H d a hd ha G hG
    subst hG
    have e2 : ¬ (20 + (d : Int)) < 10 := by omega
    have e3 : ¬ (20 + (d : Int)) = 12 := by omega
    have e4 : ¬ (20 + (d : Int)) = 13 := by omega
    have hl := (List.getElem?_eq_some_iff.mp hd).1
    simp only [List.length_append, List.length_cons, List.length_nil] at hl
    by_cases hdG : d = G.length
    · subst hdG
      simp at hd
      subst hd
      refine ⟨u, by have := isTm_weak hu G; simpa using this, ?_, ?_⟩
      · intro R m' r hR
        refine ⟨dpP R m', dpP_lo (by omega), ?_⟩
        have h3 : dpS (20 + (G.length : Int)) (R, m') = (dpP R m', m' - 1) := by simp [dpS, e2, e3, e4]
        simp only [List.cons_append, List.nil_append]
        rw [betC, h3, if_pos (by rw [hR])]
      · intro p E r hr hE _
        refine ⟨[], by simp, ?_⟩
        simp only [List.cons_append, List.nil_append]
        rw [betR, if_pos (by rw [hE]; omega), if_neg e4]
        simp
    · refine ⟨[20 + (d : Int)], isTm_b (by rw [List.getElem?_append_left (by omega)] at hd; exact hd) ha, ?_, ?_⟩
      · intro R m' r hR
        refine ⟨dpP R m', dpP_lo (by omega), ?_⟩
        have h3 : dpS (20 + (d : Int)) (R, m') = (dpP R m', m' - 1) := by simp [dpS, e2, e3, e4]
        simp only [List.cons_append, List.nil_append]
        rw [betC, h3, if_neg (by rw [hR]; omega)]
      · intro p E r hr hE _
        refine ⟨[], by simp, ?_⟩
        simp only [List.cons_append, List.nil_append]
        rw [betR, if_neg (by rw [hE]; omega), if_neg e4]
        simp
  · intro H f x a b ha hb hf0 hx0 hf hx G hG
    obtain ⟨f', hf1, hf2, hf3⟩ := hf G hG
    obtain ⟨x', hx1, hx2, hx3⟩ := hx G hG
    refine ⟨12 :: (f' ++ x'), isTm_a ha hb hf1 hx1, ?_, ?_⟩
    · intro R m r hR
      have h3 : dpS 12 (R, m) = (dpP R m, m + 1) := by simp [dpS]
      obtain ⟨R2, k1, k2⟩ := hf2 (dpP R m) (m + 1) (x ++ r) (by rw [dpP_up (by omega)]; exact hR)
      rw [show m + 1 - 1 = m by omega] at k1 k2
      rw [dpP_lo (Int.le_refl _)] at k1
      obtain ⟨R3, k3, k4⟩ := hx2 R2 m r (by rw [k1]; exact hR)
      refine ⟨R3, ?_, ?_⟩
      · rw [k3, ← dpP_lo (R := R2) (m := m) (by omega), k1, dpP_lo (by omega)]
      · simp only [List.cons_append, List.append_assoc]
        rw [betC_11 (by decide), h3, k2, k4]
    · intro p E r hr hE hE2
      have hlf := isTm_len hf0
      have hlx := isTm_len hx0
      simp only [List.length_cons, List.length_append] at hE2
      obtain ⟨E1, k1, k2⟩ := hf3 (p + 1) E (x ++ r) (isTm_hdT hx0 r) (by rw [← hE]; exact cnt_eq (fun e he => by have := hE2 e he; omega)) (fun e he => by have := hE2 e he; omega)
      obtain ⟨E2, k3, k4⟩ := hx3 (p + 1 + f.length) (E1 ++ E) r hr (by rw [cnt_app, cnt_0 k1, ← hE, Nat.zero_add]; exact cnt_eq (fun e he => by have := hE2 e he; omega)) (fun e he => by
        rcases List.mem_append.mp he with he | he
        · exact Or.inl (k1 e he)
        · have := hE2 e he; omega)
      refine ⟨E2 ++ E1, fun e he => ?_, ?_⟩
      · simp only [List.length_cons, List.length_append]
        rcases List.mem_append.mp he with he | he
        · have := k3 e he; omega
        · have := k1 e he; omega
      · simp only [List.cons_append, List.append_assoc]
        rw [betR_11 (by decide), if_neg (by decide), k2, k4]
        simp only [List.length_cons, List.length_append, List.append_assoc]
        congr 4
        omega
  · intro H a t b ha hb ht0 ht G hG
    obtain ⟨t', ht1, ht2, ht3⟩ := ht (a :: G) (by rw [hG]; rfl)
    refine ⟨13 :: (a ++ t'), isTm_l ha hb ht1, ?_, ?_⟩
    · intro R m r hR
      have h3 : dpS 13 (R, m) = ((m - 1) :: dpP R m, m) := by simp [dpS]
      have h5 : dpP ((m - 1) :: dpP R m) m = (m - 1) :: dpP R m := by
        have : ¬ m ≤ m - 1 := by omega
        simp [dpP, List.dropWhile_cons, this]
      obtain ⟨R2, k1, k2⟩ := ht2 ((m - 1) :: dpP R m) m r (by rw [h5]; simp [hR])
      refine ⟨R2, ?_, ?_⟩
      · rw [k1]
        have : dpP ((m - 1) :: dpP R m) (m - 1) = dpP (dpP R m) (m - 1) := by simp [dpP, List.dropWhile_cons]
        rw [this, dpP_lo (by omega)]
      · simp only [List.cons_append, List.append_assoc]
        rw [betC_11 (by decide), h3, betC_low (isTy_low ha), k2]
    · intro p E r hr hE hE2
      have hlt := isTm_len ht0
      simp only [List.length_cons, List.length_append] at hE2
      have hz := szT_tm (isTm_l ha hb ht0) hr
      obtain ⟨E1, k1, k2⟩ := ht3 (p + 1 + a.length) ((p + (a.length + t.length + 1)) :: E) r hr (by
          have e0 : cnt ((p + (a.length + t.length + 1)) :: E) (p + 1 + a.length) = 1 + cnt E (p + 1 + a.length) := by
            have : p + 1 + a.length < p + (a.length + t.length + 1) := by omega
            simp [cnt, this]; omega
          rw [e0, cnt_eq (E := E) (p := p + 1 + a.length) (p' := p) (fun e he => by have := hE2 e he; omega), hE]
          simp; omega) (fun e he => by
        rcases List.mem_cons.mp he with he | he
        · subst he; right; omega
        · have := hE2 e he; omega)
      refine ⟨E1 ++ [p + (a.length + t.length + 1)], fun e he => ?_, ?_⟩
      · simp only [List.length_cons, List.length_append]
        rcases List.mem_append.mp he with he | he
        · have := k1 e he; omega
        · simp at he; omega
      · simp only [List.cons_append, List.append_assoc] at hz ⊢
        rw [betR_11 (by decide), if_pos rfl, hz, betR_low (isTy_low ha)]
        simp only [List.length_cons, List.length_append, List.nil_append, List.singleton_append, List.cons_append] at k2 ⊢
        rw [k2]
        congr 4
        omega
theorem bet_ok (hu : isTm [] u c) (h : isTm [c] t b) : isTm [] (betC u t ([], 1)) b ∧ betR u t 0 [] = betC u t ([], 1) := by
  obtain ⟨t', h1, h2, h3⟩ := bet_tm hu h [] rfl
  obtain ⟨R', -, e1⟩ := h2 [] 1 [] (by rfl)
  obtain ⟨E', -, e2⟩ := h3 0 [] [] (Or.inl rfl) (by rfl) (by simp)
  simp [betC, betR] at e1 e2
  rw [e1, e2]
  exact ⟨h1, rfl⟩
end BE
/-! a type variable replaced by a type -/
def tsb (k : Int) (T : List Int) (l : List Int) : List Int := l.flatMap (fun s => if s = 2 + k then T else [s])
def rtC (k : Int) (T : List Int) : List Int → Int → List Int
  | [], _ => []
  | s :: l, p => if (s < 10 ∧ p ≠ 10 ∧ p ≠ 11) ∧ s = 2 + k then T ++ rtC k T l s else s :: rtC k T l s
section RT
variable {k : Int} {T : List Int} {G : List (List Int)} {t b : List Int}
theorem tsb_app (a b : List Int) : tsb k T (a ++ b) = tsb k T a ++ tsb k T b := by
  unfold tsb
  simp
theorem tsb_0 (hk : 0 ≤ k) (a : List Int) : tsb k T (0 :: a) = 0 :: tsb k T a := by
  have : ¬ (0 : Int) = 2 + k := by omega
  unfold tsb
  simp [this]
theorem tsb_ty (hk : 0 ≤ k) (hT : isTy T) {a : List Int} (ha : isTy a) : isTy (tsb k T a) := by
  refine isTy_ind (P := fun a => isTy (tsb k T a)) ?_ ?_ ?_ ha
  · have : ¬ (1 : Int) = 2 + k := by omega
    simp [tsb, this]
    exact isTy_b
  · intro j h1 h2
    by_cases h : j = 2 + k
    · simp [tsb, h]; exact hT
    · simp [tsb, h]; exact isTy_v h1 h2
  · intro a b _ _ ha hb
    rw [tsb_0 hk, tsb_app]
    exact isTy_f ha hb
theorem rtC_hd {r : List Int} (h : hdT r) (p p' : Int) : rtC k T r p = rtC k T r p' := by
  rcases h with h | ⟨s, l, h, hs⟩
  · subst h; rfl
  · subst h
    have : ¬ s < 10 := by omega
    simp [rtC, this]
theorem rtC_low {l : List Int} (hl : ∀ s ∈ l, s < 10) {r : List Int} (hr : hdT r) : ∀ p, p ≠ 10 → p ≠ 11 → ∀ p', rtC k T (l ++ r) p = tsb k T l ++ rtC k T r p' := by
  induction l with
  | nil => intro p _ _ p'; simp [tsb]; exact rtC_hd hr p p'
  | cons s l ih =>
    intro p h10 h11 p'
    have h0 := hl s List.mem_cons_self
    have i1 := ih (fun z hz => hl z (List.mem_cons_of_mem _ hz)) s (by omega) (by omega) p'
    by_cases he : s = 2 + k
    · rw [List.cons_append, rtC, if_pos ⟨⟨h0, h10, h11⟩, he⟩, i1]
      simp [tsb, he]
    · rw [List.cons_append, rtC, if_neg (fun q => he q.2), i1]
      simp [tsb, he]
theorem rtC_up {s : Int} (hs : ¬ s < 10) (l : List Int) (p : Int) : rtC k T (s :: l) p = s :: rtC k T l s := by
  rw [rtC, if_neg (fun q => hs q.1.1)]
theorem rtC_nm {s p : Int} (hp : p = 10 ∨ p = 11) (l : List Int) : rtC k T (s :: l) p = s :: rtC k T l s := by
  rw [rtC, if_neg (fun q => by omega)]
theorem rt_tm (hk : 0 ≤ k) (hT : isTy T) (h : isTm G t b) : ∃ t', isTm (G.map (tsb k T)) t' (tsb k T b) ∧ ∀ r, hdT r → ∀ p p', rtC k T (t ++ r) p = t' ++ rtC k T r p' := by
  refine isTm_ind (P := fun G t b => ∃ t', isTm (G.map (tsb k T)) t' (tsb k T b) ∧ ∀ r, hdT r → ∀ p p', rtC k T (t ++ r) p = t' ++ rtC k T r p') ?_ ?_ ?_ ?_ ?_ ?_ h
  · intro G m a h0 h7 ha
    refine ⟨10 :: m :: tsb k T a, isTm_v h0 h7 (tsb_ty hk hT ha), fun r hr p p' => ?_⟩
    simp only [List.cons_append]
    rw [rtC_up (by decide), rtC_nm (Or.inl rfl), rtC_low (isTy_low ha) hr m (by omega) (by omega) p']
  · intro G m a h0 h7 ha
    refine ⟨11 :: m :: tsb k T a, isTm_c h0 h7 (tsb_ty hk hT ha), fun r hr p p' => ?_⟩
    simp only [List.cons_append]
    rw [rtC_up (by decide), rtC_nm (Or.inr rfl), rtC_low (isTy_low ha) hr m (by omega) (by omega) p']
  · intro G a ha
    have h1 : ¬ (1 : Int) = 2 + k := by omega
    refine ⟨11 :: 0 :: tsb k T a, ?_, fun r hr p p' => ?_⟩
    · have e1 : tsb k T [1] = [1] := by simp [tsb, h1]
      rw [tsb_0 hk, tsb_app, tsb_0 hk, tsb_app, e1]
      exact isTm_e (tsb_ty hk hT ha)
    · simp only [List.cons_append]
      rw [rtC_up (by decide), rtC_nm (Or.inr rfl), rtC_low (isTy_low ha) hr 0 (by omega) (by omega) p']
  · intro G d a hd ha
    refine ⟨[20 + (d : Int)], isTm_b (by rw [List.getElem?_map, hd]; rfl) (tsb_ty hk hT ha), fun r hr p p' => ?_⟩
    simp only [List.cons_append, List.nil_append]
    rw [rtC_up (by omega), rtC_hd hr _ p']
  · intro G f x a b ha hb _ hx0 hf hx
    obtain ⟨f', hf1, hf2⟩ := hf
    obtain ⟨x', hx1, hx2⟩ := hx
    refine ⟨12 :: (f' ++ x'), ?_, fun r hr p p' => ?_⟩
    · rw [tsb_0 hk, tsb_app] at hf1
      exact isTm_a (tsb_ty hk hT ha) (tsb_ty hk hT hb) hf1 hx1
    · simp only [List.cons_append, List.append_assoc]
      rw [rtC_up (by decide), hf2 (x ++ r) (isTm_hdT hx0 r) 12 0, hx2 r hr 0 p']
  · intro G a t b ha hb ht0 ht
    obtain ⟨t', ht1, ht2⟩ := ht
    refine ⟨13 :: (tsb k T a ++ t'), ?_, fun r hr p p' => ?_⟩
    · rw [tsb_0 hk, tsb_app]
      exact isTm_l (tsb_ty hk hT ha) (tsb_ty hk hT hb) ht1
    · simp only [List.cons_append, List.append_assoc]
      rw [rtC_up (by decide), rtC_low (isTy_low ha) (isTm_hdT ht0 r) 13 (by decide) (by decide) 0, ht2 r hr 0 p']
theorem rt_ok (hk : 0 ≤ k) (hT : isTy T) (h : isTm [] t b) (p : Int) : isTm [] (rtC k T t p) (tsb k T b) := by
  obtain ⟨t', h1, h2⟩ := rt_tm hk hT h
  have := h2 [] (Or.inl rfl) p p
  simp [rtC] at this
  rw [this]
  simpa using h1
end RT
