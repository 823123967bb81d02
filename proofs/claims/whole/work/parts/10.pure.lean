/-! types and terms as rows of symbols -/
def isTy (l : List Int) : Prop := ∀ P : List Int → Prop, P [1] → (∀ k : Int, 2 ≤ k → k ≤ 5 → P [k]) → (∀ a b, P a → P b → P (0 :: (a ++ b))) → P l
theorem isTy_b : isTy [1] := fun _ h1 _ _ => h1
theorem isTy_v {k : Int} (h1 : 2 ≤ k) (h2 : k ≤ 5) : isTy [k] := fun _ _ hv _ => hv k h1 h2
theorem isTy_f {a b : List Int} (ha : isTy a) (hb : isTy b) : isTy (0 :: (a ++ b)) := fun P h1 h2 h3 => h3 a b (ha P h1 h2 h3) (hb P h1 h2 h3)
theorem isTy_ind {P : List Int → Prop} (h1 : P [1]) (h2 : ∀ k : Int, 2 ≤ k → k ≤ 5 → P [k]) (h3 : ∀ a b, isTy a → isTy b → P a → P b → P (0 :: (a ++ b))) {l : List Int} (h : isTy l) : P l :=
  (h (fun l => isTy l ∧ P l) ⟨isTy_b, h1⟩ (fun k a b => ⟨isTy_v a b, h2 k a b⟩) (fun a b ha hb => ⟨isTy_f ha.1 hb.1, h3 a b ha.1 hb.1 ha.2 hb.2⟩)).2
theorem isTy_inv {l : List Int} (h : isTy l) : l = [1] ∨ (∃ k : Int, 2 ≤ k ∧ k ≤ 5 ∧ l = [k]) ∨ ∃ a b, isTy a ∧ isTy b ∧ l = 0 :: (a ++ b) :=
  isTy_ind (P := fun l => l = [1] ∨ (∃ k : Int, 2 ≤ k ∧ k ≤ 5 ∧ l = [k]) ∨ ∃ a b, isTy a ∧ isTy b ∧ l = 0 :: (a ++ b)) (Or.inl rfl) (fun k a b => Or.inr (Or.inl ⟨k, a, b, rfl⟩)) (fun a b ha hb _ _ => Or.inr (Or.inr ⟨a, b, ha, hb, rfl⟩)) h
theorem isTy_sym {l : List Int} (h : isTy l) : ∀ s ∈ l, 0 ≤ s ∧ s ≤ 5 := by
  refine isTy_ind (P := fun l => ∀ s ∈ l, 0 ≤ s ∧ s ≤ 5) ?_ ?_ ?_ h
  · intro s hs
    simp at hs
    omega
  · intro k h1 h2 s hs
    simp at hs
    omega
  · intro a b _ _ ha hb s hs
    simp at hs
    rcases hs with hs | hs | hs
    · omega
    · exact ha s hs
    · exact hb s hs
theorem isTy_len {l : List Int} (h : isTy l) : 0 < l.length := by
  rcases isTy_inv h with h | ⟨k, _, _, h⟩ | ⟨a, b, _, _, h⟩ <;> subst h <;> simp
def tyS : List Int → Nat → Option (List Int)
  | [], n => if n = 0 then some [] else none
  | s :: l, n => if n = 0 then some (s :: l) else if s = 0 then tyS l (n + 1) else tyS l (n - 1)
theorem tyS_0 (l : List Int) : tyS l 0 = some l := by
  cases l <;> simp [tyS]
theorem tyS_ty {a : List Int} (h : isTy a) : ∀ (r : List Int) (n : Nat), tyS (a ++ r) (n + 1) = tyS r n := by
  refine isTy_ind (P := fun a => ∀ (r : List Int) (n : Nat), tyS (a ++ r) (n + 1) = tyS r n) ?_ ?_ ?_ h
  · intro r n
    simp [tyS]
  · intro k h1 h2 r n
    have : ¬ k = 0 := by omega
    simp [tyS, this]
  · intro a b _ _ ha hb r n
    simp only [List.cons_append, List.append_assoc, tyS]
    simp [ha, hb]
theorem isTy_cut {a b r r' : List Int} (ha : isTy a) (hb : isTy b) (e : a ++ r = b ++ r') : a = b ∧ r = r' := by
  have h1 := tyS_ty ha r 0
  have h2 := tyS_ty hb r' 0
  rw [e, h2, tyS_0, tyS_0] at h1
  have h3 : r = r' := (Option.some.inj h1).symm
  subst h3
  exact ⟨List.append_cancel_right e, rfl⟩
theorem isTy_fi {a b a' b' : List Int} (ha : isTy a) (ha' : isTy a') (e : (0 : Int) :: (a ++ b) = 0 :: (a' ++ b')) : a = a' ∧ b = b' :=
  isTy_cut ha ha' (List.cons.inj e).2
/-! terms: the types of the abstractions around, the row, its type -/
def isTm (G : List (List Int)) (t a : List Int) : Prop := ∀ P : List (List Int) → List Int → List Int → Prop,
  (∀ G (n : Int) a, 0 ≤ n → n ≤ 7 → isTy a → P G (10 :: n :: a) a) →
  (∀ G (c : Int) a, 1 ≤ c → c ≤ 6 → isTy a → P G (11 :: c :: a) a) →
  (∀ G a, isTy a → P G (11 :: 0 :: a) (0 :: (a ++ (0 :: (a ++ [1]))))) →
  (∀ (G : List (List Int)) (d : Nat) a, G[d]? = some a → isTy a → P G [20 + (d : Int)] a) →
  (∀ G f x a b, isTy a → isTy b → P G f (0 :: (a ++ b)) → P G x a → P G (12 :: (f ++ x)) b) →
  (∀ G a t b, isTy a → isTy b → P (a :: G) t b → P G (13 :: (a ++ t)) (0 :: (a ++ b))) → P G t a
section TM
variable {G : List (List Int)} {a b t f x : List Int}
theorem isTm_v {n : Int} (h0 : 0 ≤ n) (h7 : n ≤ 7) (ha : isTy a) : isTm G (10 :: n :: a) a := fun _ h1 _ _ _ _ _ => h1 G n a h0 h7 ha
theorem isTm_c {c : Int} (h1 : 1 ≤ c) (h6 : c ≤ 6) (ha : isTy a) : isTm G (11 :: c :: a) a := fun _ _ h2 _ _ _ _ => h2 G c a h1 h6 ha
theorem isTm_e (ha : isTy a) : isTm G (11 :: 0 :: a) (0 :: (a ++ (0 :: (a ++ [1])))) := fun _ _ _ h3 _ _ _ => h3 G a ha
theorem isTm_b {d : Nat} (hd : G[d]? = some a) (ha : isTy a) : isTm G [20 + (d : Int)] a := fun _ _ _ _ h4 _ _ => h4 G d a hd ha
theorem isTm_a (ha : isTy a) (hb : isTy b) (hf : isTm G f (0 :: (a ++ b))) (hx : isTm G x a) : isTm G (12 :: (f ++ x)) b := fun P h1 h2 h3 h4 h5 h6 => h5 G f x a b ha hb (hf P h1 h2 h3 h4 h5 h6) (hx P h1 h2 h3 h4 h5 h6)
theorem isTm_l (ha : isTy a) (hb : isTy b) (ht : isTm (a :: G) t b) : isTm G (13 :: (a ++ t)) (0 :: (a ++ b)) := fun P h1 h2 h3 h4 h5 h6 => h6 G a t b ha hb (ht P h1 h2 h3 h4 h5 h6)
theorem isTm_ind {P : List (List Int) → List Int → List Int → Prop}
    (h1 : ∀ G (n : Int) a, 0 ≤ n → n ≤ 7 → isTy a → P G (10 :: n :: a) a)
    (h2 : ∀ G (c : Int) a, 1 ≤ c → c ≤ 6 → isTy a → P G (11 :: c :: a) a)
    (h3 : ∀ G a, isTy a → P G (11 :: 0 :: a) (0 :: (a ++ (0 :: (a ++ [1])))))
    (h4 : ∀ (G : List (List Int)) (d : Nat) a, G[d]? = some a → isTy a → P G [20 + (d : Int)] a)
    (h5 : ∀ G f x a b, isTy a → isTy b → isTm G f (0 :: (a ++ b)) → isTm G x a → P G f (0 :: (a ++ b)) → P G x a → P G (12 :: (f ++ x)) b)
    (h6 : ∀ G a t b, isTy a → isTy b → isTm (a :: G) t b → P (a :: G) t b → P G (13 :: (a ++ t)) (0 :: (a ++ b)))
    (h : isTm G t a) : P G t a :=
  (h (fun G t a => isTm G t a ∧ P G t a) (fun G n a p q r => ⟨isTm_v p q r, h1 G n a p q r⟩) (fun G c a p q r => ⟨isTm_c p q r, h2 G c a p q r⟩) (fun G a r => ⟨isTm_e r, h3 G a r⟩) (fun G d a p r => ⟨isTm_b p r, h4 G d a p r⟩)
    (fun G f x a b p q hf hx => ⟨isTm_a p q hf.1 hx.1, h5 G f x a b p q hf.1 hx.1 hf.2 hx.2⟩) (fun G a t b p q ht => ⟨isTm_l p q ht.1, h6 G a t b p q ht.1 ht.2⟩)).2
theorem isTm_inv (h : isTm G t a) : (∃ n : Int, 0 ≤ n ∧ n ≤ 7 ∧ isTy a ∧ t = 10 :: n :: a) ∨ (∃ c : Int, 1 ≤ c ∧ c ≤ 6 ∧ isTy a ∧ t = 11 :: c :: a) ∨ (∃ s, isTy s ∧ t = 11 :: 0 :: s ∧ a = 0 :: (s ++ (0 :: (s ++ [1])))) ∨ (∃ d : Nat, G[d]? = some a ∧ isTy a ∧ t = [20 + (d : Int)]) ∨ (∃ f x s, isTy s ∧ isTy a ∧ isTm G f (0 :: (s ++ a)) ∧ isTm G x s ∧ t = 12 :: (f ++ x)) ∨ (∃ s u b, isTy s ∧ isTy b ∧ isTm (s :: G) u b ∧ t = 13 :: (s ++ u) ∧ a = 0 :: (s ++ b)) :=
  isTm_ind (P := fun G t a => (∃ n : Int, 0 ≤ n ∧ n ≤ 7 ∧ isTy a ∧ t = 10 :: n :: a) ∨ (∃ c : Int, 1 ≤ c ∧ c ≤ 6 ∧ isTy a ∧ t = 11 :: c :: a) ∨ (∃ s, isTy s ∧ t = 11 :: 0 :: s ∧ a = 0 :: (s ++ (0 :: (s ++ [1])))) ∨ (∃ d : Nat, G[d]? = some a ∧ isTy a ∧ t = [20 + (d : Int)]) ∨ (∃ f x s, isTy s ∧ isTy a ∧ isTm G f (0 :: (s ++ a)) ∧ isTm G x s ∧ t = 12 :: (f ++ x)) ∨ (∃ s u b, isTy s ∧ isTy b ∧ isTm (s :: G) u b ∧ t = 13 :: (s ++ u) ∧ a = 0 :: (s ++ b)))
    (fun G n a p q r => Or.inl ⟨n, p, q, r, rfl⟩) (fun G c a p q r => Or.inr (Or.inl ⟨c, p, q, r, rfl⟩)) (fun G a r => Or.inr (Or.inr (Or.inl ⟨a, r, rfl, rfl⟩))) (fun G d a p r => Or.inr (Or.inr (Or.inr (Or.inl ⟨d, p, r, rfl⟩))))
    (fun G f x a b p q hf hx _ _ => Or.inr (Or.inr (Or.inr (Or.inr (Or.inl ⟨f, x, a, p, q, hf, hx, rfl⟩))))) (fun G a t b p q ht _ => Or.inr (Or.inr (Or.inr (Or.inr (Or.inr ⟨a, t, b, p, q, ht, rfl, rfl⟩))))) h
theorem isTm_ty (h : isTm G t a) : isTy a := by
  refine isTm_ind (P := fun _ _ a => isTy a) ?_ ?_ ?_ ?_ ?_ ?_ h
  · intro _ _ _ _ _ h; exact h
  · intro _ _ _ _ _ h; exact h
  · intro _ a h; exact isTy_f h (isTy_f h isTy_b)
  · intro _ _ _ _ h; exact h
  · intro _ _ _ _ _ _ h _ _ _ _; exact h
  · intro _ _ _ _ h1 h2 _ _; exact isTy_f h1 h2
theorem isTm_hd (h : isTm G t a) : ∃ s r, t = s :: r ∧ 10 ≤ s := by
  rcases isTm_inv h with ⟨n, _, _, _, e⟩ | ⟨c, _, _, _, e⟩ | ⟨s, _, e, _⟩ | ⟨d, _, _, e⟩ | ⟨f, x, s, _, _, _, _, e⟩ | ⟨s, u, b, _, _, _, e, _⟩
  · exact ⟨_, _, e, by omega⟩
  · exact ⟨_, _, e, by omega⟩
  · exact ⟨_, _, e, by omega⟩
  · exact ⟨_, _, e, by omega⟩
  · exact ⟨_, _, e, by omega⟩
  · exact ⟨_, _, e, by omega⟩
theorem isTm_len (h : isTm G t a) : 0 < t.length := by
  obtain ⟨s, r, e, _⟩ := isTm_hd h
  subst e
  simp
/-- every symbol is small and none is below 0 -/
theorem isTm_sym (h : isTm G t a) : ∀ s ∈ t, 0 ≤ s ∧ (s ≤ 13 ∨ 20 ≤ s ∧ s < 20 + (G.length : Int) + (t.length : Int)) := by
  refine isTm_ind (P := fun G t _ => ∀ s ∈ t, 0 ≤ s ∧ (s ≤ 13 ∨ 20 ≤ s ∧ s < 20 + (G.length : Int) + (t.length : Int))) ?_ ?_ ?_ ?_ ?_ ?_ h
  · intro G n a h0 h7 ha s hs
    simp at hs
    rcases hs with hs | hs | hs
    · omega
    · omega
    · have := isTy_sym ha s hs; omega
  · intro G n a h0 h7 ha s hs
    simp at hs
    rcases hs with hs | hs | hs
    · omega
    · omega
    · have := isTy_sym ha s hs; omega
  · intro G a ha s hs
    simp at hs
    rcases hs with hs | hs | hs
    · omega
    · omega
    · have := isTy_sym ha s hs; omega
  · intro G d a hd ha s hs
    have := (List.getElem?_eq_some_iff.mp hd).1
    simp at hs
    subst hs
    simp
    omega
  · intro G f x a b _ _ _ _ hf hx s hs
    simp at hs ⊢
    rcases hs with hs | hs | hs
    · omega
    · have := hf s hs; omega
    · have := hx s hs; omega
  · intro G a t b ha _ _ ht s hs
    simp at hs ⊢
    rcases hs with hs | hs | hs
    · omega
    · have := isTy_sym ha s hs; omega
    · have := ht s hs; simp at this; omega
/-- more abstractions around change nothing -/
theorem isTm_weak (h : isTm G t a) : ∀ D, isTm (G ++ D) t a := by
  refine isTm_ind (P := fun G t a => ∀ D, isTm (G ++ D) t a) ?_ ?_ ?_ ?_ ?_ ?_ h
  · intro G n a h0 h7 ha D; exact isTm_v h0 h7 ha
  · intro G n a h0 h7 ha D; exact isTm_c h0 h7 ha
  · intro G a ha D; exact isTm_e ha
  · intro G d a hd ha D
    refine isTm_b ?_ ha
    rw [List.getElem?_append_left (List.getElem?_eq_some_iff.mp hd).1]
    exact hd
  · intro G f x a b ha hb _ _ hf hx D; exact isTm_a ha hb (hf D) (hx D)
  · intro G a t b ha hb _ ht D; exact isTm_l ha hb (ht D)
/-- behind n terms -/
def tmS : List Int → Nat → List Int
  | [], _ => []
  | s :: l, n => if s < 10 then tmS l n else if n = 0 then s :: l else if s = 12 then tmS l (n + 1) else if s = 13 then tmS l n else tmS l (n - 1)
theorem tmS_low {l : List Int} (hl : ∀ s ∈ l, s < 10) : ∀ (r : List Int) (n : Nat), tmS (l ++ r) n = tmS r n := by
  induction l with
  | nil => intro r n; rfl
  | cons s l ih =>
    intro r n
    have h1 : s < 10 := hl s List.mem_cons_self
    simp only [List.cons_append, tmS, if_pos h1]
    exact ih (fun z hz => hl z (List.mem_cons_of_mem _ hz)) r n
theorem isTy_low {l : List Int} (h : isTy l) : ∀ s ∈ l, s < 10 := fun s hs => by have := isTy_sym h s hs; omega
theorem tmS_tm (h : isTm G t a) : ∀ (r : List Int) (n : Nat), tmS (t ++ r) (n + 1) = tmS r n := by
  refine isTm_ind (P := fun _ t _ => ∀ (r : List Int) (n : Nat), tmS (t ++ r) (n + 1) = tmS r n) ?_ ?_ ?_ ?_ ?_ ?_ h
  · intro G m a h0 h7 ha r n
    have h1 : m < 10 := by omega
    simp [tmS, h1, tmS_low (isTy_low ha)]
  · intro G m a h0 h7 ha r n
    have h1 : m < 10 := by omega
    simp [tmS, h1, tmS_low (isTy_low ha)]
  · intro G a ha r n
    simp [tmS, tmS_low (isTy_low ha)]
  · intro G d a hd ha r n
    have h1 : ¬ (20 + (d : Int)) < 10 := by omega
    have h2 : ¬ (20 + (d : Int)) = 12 := by omega
    have h3 : ¬ (20 + (d : Int)) = 13 := by omega
    simp [tmS, h1, h2, h3]
  · intro G f x a b _ _ _ _ hf hx r n
    simp [tmS, hf, hx]
  · intro G a t b ha _ _ ht r n
    simp [tmS, tmS_low (isTy_low ha), ht]
def hdT (r : List Int) : Prop := r = [] ∨ ∃ s l, r = s :: l ∧ 10 ≤ s
theorem tmS_0 {r : List Int} (h : hdT r) : tmS r 0 = r := by
  rcases h with h | ⟨s, l, h, hs⟩
  · subst h; rfl
  · subst h
    have : ¬ s < 10 := by omega
    simp [tmS, this]
theorem isTm_cut {G' : List (List Int)} {t' a' r r' : List Int} (h : isTm G t a) (h' : isTm G' t' a') (hr : hdT r) (hr' : hdT r') (e : t ++ r = t' ++ r') : t = t' ∧ r = r' := by
  have h1 := tmS_tm h r 0
  have h2 := tmS_tm h' r' 0
  rw [e, h2, tmS_0 hr, tmS_0 hr'] at h1
  subst h1
  exact ⟨List.append_cancel_right e, rfl⟩
theorem isTm_hdT (h : isTm G t a) (r : List Int) : hdT (t ++ r) := by
  obtain ⟨s, l, e, hs⟩ := isTm_hd h
  subst e
  exact Or.inr ⟨s, l ++ r, rfl, hs⟩
/-- a term has one type -/
theorem isTm_uni (h : isTm G t a) : ∀ a', isTm G t a' → a = a' := by
  refine isTm_ind (P := fun G t a => ∀ a', isTm G t a' → a = a') ?_ ?_ ?_ ?_ ?_ ?_ h
  · intro G n a h0 h7 ha a' h'
    rcases isTm_inv h' with ⟨n', _, _, _, e⟩ | ⟨c, _, _, _, e⟩ | ⟨s, _, e, _⟩ | ⟨d, _, _, e⟩ | ⟨f, x, s, _, _, _, _, e⟩ | ⟨s, u, b, _, _, _, e, _⟩ <;> simp at e
    · exact e.2
  · intro G n a h0 h7 ha a' h'
    rcases isTm_inv h' with ⟨n', _, _, _, e⟩ | ⟨c, _, _, _, e⟩ | ⟨s, _, e, _⟩ | ⟨d, _, _, e⟩ | ⟨f, x, s, _, _, _, _, e⟩ | ⟨s, u, b, _, _, _, e, _⟩ <;> simp at e
    · exact e.2
    · omega
  · intro G a ha a' h'
    rcases isTm_inv h' with ⟨n', _, _, _, e⟩ | ⟨c, _, _, _, e⟩ | ⟨s, _, e, e2⟩ | ⟨d, _, _, e⟩ | ⟨f, x, s, _, _, _, _, e⟩ | ⟨s, u, b, _, _, _, e, _⟩ <;> simp at e
    · omega
    · subst e; exact e2.symm
  · intro G d a hd ha a' h'
    rcases isTm_inv h' with ⟨n', _, _, _, e⟩ | ⟨c, _, _, _, e⟩ | ⟨s, _, e, e2⟩ | ⟨d', hd', _, e⟩ | ⟨f, x, s, _, _, _, _, e⟩ | ⟨s, u, b, _, _, _, e, _⟩ <;> simp at e
    · have e1 : d = d' := by omega
      subst e1
      exact Option.some.inj (hd.symm.trans hd')
    · omega
    · omega
  · intro G f x a b ha hb hf hx ihf ihx a' h'
    rcases isTm_inv h' with ⟨n', _, _, _, e⟩ | ⟨c, _, _, _, e⟩ | ⟨s, _, e, e2⟩ | ⟨d', hd', _, e⟩ | ⟨f', x', s, hs, ha', hf', hx', e⟩ | ⟨s, u, b, _, _, _, e, _⟩ <;> simp at e
    · omega
    · have hz := isTm_cut hf hf' (by have := isTm_hdT hx []; simpa using this) (by have := isTm_hdT hx' []; simpa using this) e
      obtain ⟨e1, e2⟩ := hz
      subst e1; subst e2
      have := ihf _ hf'
      exact (isTy_fi ha hs this).2
  · intro G a t b ha hb ht ih a' h'
    rcases isTm_inv h' with ⟨n', _, _, _, e⟩ | ⟨c, _, _, _, e⟩ | ⟨s, _, e, e2⟩ | ⟨d', hd', _, e⟩ | ⟨f', x', s, hs, ha', hf', hx', e⟩ | ⟨s, u, b', hs, _, hu, e, e2⟩ <;> simp at e
    · omega
    · obtain ⟨e1, e3⟩ := isTy_cut ha hs e
      subst e1; subst e3
      rw [e2, ih _ hu]
end TM
