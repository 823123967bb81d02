/-! the hypotheses of the class against those of the reference -/
theorem cm_self : ∀ l : List Int, cm l l = 0 := by
  intro l
  induction l with
  | nil => rfl
  | cons x l ih => unfold cm; rw [if_pos rfl]; exact ih
theorem cm_pre : ∀ a b : List Int, cm a b = 0 → (∃ r, b = a ++ r) ∨ ∃ r, a = b ++ r := by
  intro a
  induction a with
  | nil => intro b _; exact Or.inl ⟨b, rfl⟩
  | cons x a ih =>
    intro b h
    cases b with
    | nil => exact Or.inr ⟨x :: a, rfl⟩
    | cons y b =>
      unfold cm at h
      by_cases e : x = y
      · rw [if_pos e] at h
        subst e
        rcases ih b h with ⟨r, hr⟩ | ⟨r, hr⟩
        · exact Or.inl ⟨r, by rw [hr]; rfl⟩
        · exact Or.inr ⟨r, by rw [hr]; rfl⟩
      · rw [if_neg e] at h
        split at h <;> simp at h
theorem isTm_pre {G G' : List (List Int)} {t a t' a' r : List Int} (h : isTm G t a) (h' : isTm G' t' a') (e : t' = t ++ r) : t' = t := by
  have k1 := tmS_tm h r 0
  have k2 := tmS_tm h' [] 0
  rw [← e] at k1
  have k3 : tmS t' 1 = [] := by
    have : t' ++ ([] : List Int) = t' := List.append_nil t'
    rw [this] at k2
    exact k2
  rw [show (0 + 1) = 1 from rfl] at k1
  rw [k3] at k1
  have k4 : ∀ r : List Int, tmS r 0 = [] → ∀ s ∈ r, s < 10 := by
    intro r
    induction r with
    | nil => intro _ s hs; cases hs
    | cons x r ih =>
      intro h0 s hs
      unfold tmS at h0
      by_cases hx : x < 10
      · rw [if_pos hx] at h0
        rcases List.mem_cons.mp hs with e | hs
        · omega
        · exact ih h0 s hs
      · rw [if_neg hx, if_pos rfl] at h0
        cases h0
  have hr := k4 r k1.symm
  clear k1 k2 k3 k4
  have hl : ∀ {G : List (List Int)} {t a : List Int}, isTm G t a → ∀ (G' : List (List Int)) (a' r : List Int), isTm G' (t ++ r) a' → (∀ s ∈ r, s < 10) → r = [] := by
    clear h h' e hr
    intro G t a h
    refine isTm_ind (P := fun _ t _ => ∀ (G' : List (List Int)) (a' r : List Int), isTm G' (t ++ r) a' → (∀ s ∈ r, s < 10) → r = []) ?_ ?_ ?_ ?_ ?_ ?_ h
    · intro G n a _ _ ta G' a' r hh hr
      rcases isTm_inv hh with ⟨m, _, _, tb, e⟩ | ⟨m, _, _, tb, e⟩ | ⟨s, ts, e, _⟩ | ⟨d, _, _, e⟩ | ⟨f, x, s, _, _, _, _, e⟩ | ⟨s, u, b, _, _, _, e, _⟩ <;> simp at e
      · have := isTy_cut ta tb (r := r) (r' := []) (by rw [List.append_nil]; exact e.2)
        exact this.2
    · intro G n a _ _ ta G' a' r hh hr
      rcases isTm_inv hh with ⟨m, _, _, tb, e⟩ | ⟨m, _, _, tb, e⟩ | ⟨s, ts, e, _⟩ | ⟨d, _, _, e⟩ | ⟨f, x, s, _, _, _, _, e⟩ | ⟨s, u, b, _, _, _, e, _⟩ <;> simp at e
      · have := isTy_cut ta tb (r := r) (r' := []) (by rw [List.append_nil]; exact e.2)
        exact this.2
      · omega
    · intro G a ta G' a' r hh hr
      rcases isTm_inv hh with ⟨m, _, _, tb, e⟩ | ⟨m, _, _, tb, e⟩ | ⟨s, ts, e, _⟩ | ⟨d, _, _, e⟩ | ⟨f, x, s, _, _, _, _, e⟩ | ⟨s, u, b, _, _, _, e, _⟩ <;> simp at e
      · omega
      · have := isTy_cut ta ts (r := r) (r' := []) (by rw [List.append_nil]; exact e)
        exact this.2
    · intro G d a _ _ G' a' r hh hr
      rcases isTm_inv hh with ⟨m, _, _, tb, e⟩ | ⟨m, _, _, tb, e⟩ | ⟨s, ts, e, _⟩ | ⟨d, _, _, e⟩ | ⟨f, x, s, _, _, _, _, e⟩ | ⟨s, u, b, _, _, _, e, _⟩ <;> simp at e
      · omega
      · omega
      · omega
      · exact e.2
      · omega
      · omega
    · intro G f x a b ta tb hf hx ihf ihx G' a' r hh hr
      rcases isTm_inv hh with ⟨m, _, _, tb, e⟩ | ⟨m, _, _, tb, e⟩ | ⟨s, ts, e, _⟩ | ⟨d, _, _, e⟩ | ⟨f', x', s, _, _, hf', hx', e⟩ | ⟨s, u, b, _, _, _, e, _⟩ <;> simp at e
      · omega
      · have c := isTm_cut hf hf' (isTm_hdT hx r) (by have := isTm_hdT hx' []; rw [List.append_nil] at this; exact this) e
        exact ihx G' s r (by rw [c.2]; exact hx') hr
    · intro G a t b ta tb _ iht G' a' r hh hr
      rcases isTm_inv hh with ⟨m, _, _, tb, e⟩ | ⟨m, _, _, tb, e⟩ | ⟨s, ts, e, _⟩ | ⟨d, _, _, e⟩ | ⟨f', x', s, _, _, hf', hx', e⟩ | ⟨s, u, b, ts, _, hu, e, _⟩ <;> simp at e
      · omega
      · have c := isTy_cut ta ts e
        exact iht (s :: G') b r (by rw [c.2]; exact hu) hr
  rw [e, hl h G' a' r (by rw [← e]; exact h') hr, List.append_nil]
theorem cm_0 {G G' : List (List Int)} {l h a a' : List Int} (hl : isTm G l a) (hh : isTm G' h a') (e : cm l h = 0) : l = h := by
  rcases cm_pre l h e with ⟨r, hr⟩ | ⟨r, hr⟩
  · exact (isTm_pre hl hh hr).symm
  · exact isTm_pre hh hl hr
theorem plc_pos {l : List Int} : ∀ {hs : List (List Int)} {m : Nat}, pos l hs = some m → plc l hs = m ∧ ¬ hs[m]? = some l := by
  intro hs
  induction hs with
  | nil => intro m h; simp [pos] at h; subst h; simp [plc]
  | cons a hs ih =>
    intro m h
    unfold pos at h
    by_cases h0 : cm l a = 0
    · rw [if_pos h0] at h; cases h
    rw [if_neg h0] at h
    have hn := cm_neg a l
    unfold plc
    by_cases h1 : cm l a < 0
    · rw [if_pos h1] at h
      simp at h
      subst h
      have : ¬ cm a l = -1 := by omega
      rw [if_neg this]
      exact ⟨rfl, fun e => by simp at e; subst e; rw [cm_self] at h0; exact h0 rfl⟩
    · rw [if_neg h1] at h
      cases hp : pos l hs with
      | none => rw [hp] at h; simp at h
      | some k =>
        rw [hp] at h
        simp at h
        subst h
        have hr := cm_r l a
        have : cm a l = -1 := by omega
        rw [if_pos this]
        obtain ⟨i1, i2⟩ := ih hp
        exact ⟨by rw [i1], by simpa using i2⟩
theorem plc_none {l a : List Int} (hl : isTm [] l a) : ∀ {hs : List (List Int)}, (∀ h ∈ hs, ∃ b, isTm [] h b) → pos l hs = none → hs[plc l hs]? = some l := by
  intro hs
  induction hs with
  | nil => intro _ h; simp [pos] at h
  | cons x hs ih =>
    intro ht h
    unfold pos at h
    have hn := cm_neg x l
    unfold plc
    by_cases h0 : cm l x = 0
    · have : ¬ cm x l = -1 := by omega
      rw [if_neg this]
      obtain ⟨b, hb⟩ := ht x (by simp)
      rw [cm_0 hl hb h0]
      rfl
    rw [if_neg h0] at h
    by_cases h1 : cm l x < 0
    · rw [if_pos h1] at h; cases h
    rw [if_neg h1] at h
    have hr := cm_r l x
    have : cm x l = -1 := by omega
    rw [if_pos this]
    have := ih (fun y hy => ht y (List.mem_cons_of_mem _ hy)) (by cases hp : pos l hs with
      | none => rfl
      | some k => rw [hp] at h; simp at h)
    simpa using this
def badH (y : List (List Int)) : Prop := 3 < y.length ∨ ∃ l ∈ y, 40 < l.length
def hR (b : Bool) (x : List (List Int) × Bool) (y : List (List Int)) : Prop := (x.2 = b ∧ x.1 = y ∧ gH y) ∨ (x.2 = true ∧ badH y)
theorem hR_0 (b : Bool) : hR b ([], b) [] := Or.inl ⟨rfl, rfl, gH_0⟩
theorem take_len (l : List Int) : ((l.take 81).length ≤ 40) = (l.length ≤ 40) := by
  rw [List.length_take]
  exact propext (by omega)
theorem take_id {l : List Int} (h : l.length ≤ 40) : l.take 81 = l := List.take_of_length_le (by omega)
theorem insC_bad {l : List Int} {y : List (List Int)} (h : badH y) : badH (insC l y) := by
  unfold insC
  split
  · exact h
  · unfold insA
    rcases h with h | ⟨v, hv, h⟩
    · refine Or.inl ?_
      have : (y.take (plc l y) ++ l :: y.drop (plc l y)).length = y.length + 1 := by
        have := plc_le l y
        simp
        omega
      omega
    · refine Or.inr ⟨v, ?_, h⟩
      rw [← List.take_append_drop (plc l y) y] at hv
      rcases List.mem_append.mp hv with e | e
      · exact List.mem_append_left _ e
      · exact List.mem_append_right _ (List.mem_cons_of_mem _ e)
theorem hin_tr {l : List Int} {x : List (List Int) × Bool} (h : x.2 = true) : (hin l x).2 = true := by
  unfold hin
  split
  · exact h
  · split
    · rfl
    · exact h
theorem hR_in {b : Bool} {x : List (List Int) × Bool} {y : List (List Int)} {l : List Int} (h : hR b x y) (hl : isTm [] l [1]) : hR b (hin l x) (insC (l.take 81) y) := by
  rcases h with ⟨h1, h2, h3⟩ | ⟨h1, h2⟩
  · subst h2
    have ht : ∀ h ∈ x.1, ∃ b, isTm [] h b := fun h hh => ⟨_, (h3.2.2 h hh).1⟩
    have hlen := h3.1
    unfold hin
    cases hp : pos l x.1 with
    | none =>
      have k := plc_none hl ht hp
      have k40 := (h3.2.2 l (List.mem_of_getElem? k)).2
      rw [take_id k40]
      unfold insC
      rw [if_pos (Or.inr k)]
      exact Or.inl ⟨h1, rfl, h3⟩
    | some m =>
      have k := plc_pos hp
      show hR b (if x.1.length = 3 ∨ 40 < l.length then (x.1, true) else (insA l x.1 m, x.2)) _
      by_cases hb : x.1.length = 3 ∨ 40 < l.length
      · rw [if_pos hb]
        refine Or.inr ⟨rfl, ?_⟩
        by_cases h40 : 40 < l.length
        · have hnot : ¬ x.1[plc (l.take 81) x.1]? = some (l.take 81) := fun e => by
            have := (h3.2.2 _ (List.mem_of_getElem? e)).2
            rw [take_len] at this
            omega
          unfold insC
          rw [if_neg (by intro e; rcases e with e | e; omega; exact hnot e)]
          refine Or.inr ⟨l.take 81, by unfold insA; simp, ?_⟩
          have := take_len l
          rw [List.length_take]
          omega
        · rw [take_id (by omega)]
          unfold insC
          rw [k.1, if_neg (by intro e; rcases e with e | e; omega; exact k.2 e)]
          refine Or.inl ?_
          have := pos_le hp
          unfold insA
          simp
          omega
      · rw [if_neg hb]
        rw [take_id (by omega)]
        have k2 : insC l x.1 = insA l x.1 m := by
          unfold insC
          rw [k.1, if_neg (by intro e; rcases e with e | e; omega; exact k.2 e)]
        rw [k2]
        refine Or.inl ⟨h1, rfl, ?_⟩
        have := gH_hin (x := x) hl h3
        unfold hin at this
        rw [hp] at this
        simp only [if_neg hb] at this
        exact this
  · exact Or.inr ⟨hin_tr h1, insC_bad h2⟩
theorem hR_brg {b : Bool} {bl : List Int} : ∀ {hs : List (List Int)} {x : List (List Int) × Bool} {y : List (List Int)}, hR b x y → (∀ h ∈ hs, isTm [] h [1] ∧ h.length ≤ 40) → hR b (brg bl x hs) (adC bl y hs) := by
  intro hs
  induction hs with
  | nil => intro x y h _; exact h
  | cons a hs ih =>
    intro x y h ha
    show hR b (brg bl (if a = bl then x else hin a x) hs) (adC bl (if a = bl then y else insC a y) hs)
    refine ih ?_ (fun z hz => ha z (List.mem_cons_of_mem _ hz))
    by_cases e : a = bl
    · rw [if_pos e, if_pos e]; exact h
    · rw [if_neg e, if_neg e]
      have := ha a (by simp)
      have k := hR_in h this.1
      rw [take_id this.2] at k
      exact k
theorem hfc_ad {hs : List (List Int)} : ∀ {y : List (List Int)}, (∀ h ∈ hs, isTm [] h [1] ∧ h.length ≤ 40) → hfc y hs = adC [] y hs := by
  induction hs with
  | nil => intro y _; rfl
  | cons a hs ih =>
    intro y ha
    show hfc (insC a y) hs = adC [] (if a = [] then y else insC a y) hs
    have := isTm_len (ha a (by simp)).1
    rw [if_neg (fun e => by rw [e] at this; simp at this)]
    exact ih (fun z hz => ha z (List.mem_cons_of_mem _ hz))
theorem hR_brg0 {b : Bool} {hs : List (List Int)} {x : List (List Int) × Bool} {y : List (List Int)} (h : hR b x y) (ha : ∀ h ∈ hs, isTm [] h [1] ∧ h.length ≤ 40) : hR b (brg [] x hs) (hfc y hs) := by
  rw [hfc_ad ha]
  exact hR_brg h ha
noncomputable def ifo (f : List Int → List Int) (y hs : List (List Int)) : List (List Int) := hs.foldl (fun y h => insC ((f h).take 81) y) y
theorem hR_hfo {b : Bool} {f : List Int → List Int} : ∀ {hs : List (List Int)} {x : List (List Int) × Bool} {y : List (List Int)}, hR b x y → (∀ h ∈ hs, isTm [] (f h) [1]) → hR b (hfo f x hs) (ifo f y hs) := by
  intro hs
  induction hs with
  | nil => intro x y h _; exact h
  | cons a hs ih =>
    intro x y h ha
    show hR b (hfo f (hin (f a) x) hs) (ifo f (insC ((f a).take 81) y) hs)
    exact ih (hR_in h (ha a (by simp))) (fun z hz => ha z (List.mem_cons_of_mem _ hz))
theorem plc_end {l : List Int} : ∀ {y : List (List Int)}, (∀ h ∈ y, cm h l = -1) → plc l y = y.length := by
  intro y
  induction y with
  | nil => intro _; rfl
  | cons a y ih =>
    intro h
    unfold plc
    rw [if_pos (h a (by simp)), ih (fun z hz => h z (List.mem_cons_of_mem _ hz))]
    rfl
theorem hfc_srt : ∀ {hs y : List (List Int)}, srt hs → (∀ h ∈ y, ∀ l ∈ hs, cm h l = -1) → y.length + hs.length ≤ 6 → hfc y hs = y ++ hs := by
  intro hs
  induction hs with
  | nil => intro y _ _ _; exact (List.append_nil y).symm
  | cons a hs ih =>
    intro y s h hl
    obtain ⟨s1, s2⟩ := s
    have hl' : y.length + (hs.length + 1) ≤ 6 := by simpa using hl
    have k : insC a y = y ++ [a] := by
      unfold insC
      have kp := plc_end (l := a) (y := y) (fun z hz => h z hz a (by simp))
      rw [kp, if_neg (by intro e; rcases e with e | e; omega; simp at e)]
      unfold insA
      simp
    show hfc (insC a y) hs = _
    rw [k, ih s2 (fun z hz l hm => by
      rcases List.mem_append.mp hz with e | e
      · exact h z e l (List.mem_cons_of_mem _ hm)
      · rw [List.mem_singleton] at e; rw [e]; exact s1 l hm) (by simp; omega)]
    simp
theorem hR_self {b : Bool} {hs : List (List Int)} (h : gH hs) : hR b (brg [] ([], b) hs) hs := by
  have k := hR_brg0 (hR_0 b) (hs := hs) h.2.2
  rw [hfc_srt h.2.1 (by simp) (by have := h.1; simp; omega)] at k
  exact k
/-- small enough -/
def smO (x : oB) : Prop := x.2.1.length ≤ (if x.1 = 0 then 15 else 40) ∧ x.2.2.length ≤ 3 ∧ ∀ v ∈ x.2.2, v.length ≤ 40
/-- the end of a command of the class -/
noncomputable def fin9 (M : mS) (n : Nat) (x : oB) : Int × mS := ifc (smO x ∧ M.1.length - n < 12) (fi M n x false) (4, M)
theorem fin9_fi {M : mS} {n : Nat} {k : Int} {l : List Int} {x : List (List Int) × Bool} {y : List (List Int)} (hk : k = 1 ∨ k = 2) (h : hR (decide (40 < l.length)) x y) (hn : M.1.length - n < 12) : fin9 M n (k, l.take 81, y) = fi M n (k, l, x.1) x.2 := by
  have h4 : fi M n (k, l, x.1) true = (4, M) := by unfold fi; rw [if_pos (Or.inl rfl)]
  have hbad : ¬ smO (k, l.take 81, y) → fin9 M n (k, l.take 81, y) = (4, M) := fun e => by
    unfold fin9
    rw [ifc_f (fun a => e a.1)]
  have h40 : (if k = 0 then 15 else 40) = 40 := if_neg (by omega)
  rcases h with ⟨h1, h2, h3⟩ | ⟨h1, h2⟩
  · subst h2
    by_cases hb : 40 < l.length
    · rw [h1, decide_eq_true hb, h4]
      refine hbad (fun e => ?_)
      have := e.1
      simp only [h40] at this
      rw [take_len] at this
      omega
    · rw [h1, decide_eq_false hb, take_id (by omega)]
      unfold fin9
      refine ifc_t ⟨⟨?_, h3.1, fun v hv => (h3.2.2 v hv).2⟩, hn⟩ _ _
      simp only [h40]
      omega
  · rw [h1, h4]
    refine hbad (fun e => ?_)
    rcases h2 with h2 | ⟨v, hv, h2⟩
    · have := e.2.1
      simp only at this
      omega
    · have := e.2.2 v hv
      omega
/-- without hypotheses -/
theorem fin9_0 {M : mS} {n : Nat} {k : Int} {l : List Int} (hk : k = 1 ∨ k = 2) (hn : M.1.length - n < 12) : fin9 M n (k, l.take 81, []) = fi M n (k, l, []) (decide (40 < l.length)) := fin9_fi (x := ([], decide (40 < l.length))) hk (hR_0 _) hn
/-! the type of a term is not too long; cut rows -/
theorem ty_len {G : List (List Int)} {t b : List Int} (h : isTm G t b) : ∀ K, (∀ c ∈ G, c.length ≤ K) → b.length ≤ 2 * t.length + K := by
  refine isTm_ind (P := fun G t b => ∀ K, (∀ c ∈ G, c.length ≤ K) → b.length ≤ 2 * t.length + K) ?_ ?_ ?_ ?_ ?_ ?_ h
  · intro G n a _ _ _ K _; simp; omega
  · intro G n a _ _ _ K _; simp; omega
  · intro G a _ K _; simp; omega
  · intro G d a hd _ K hK
    have := hK a (List.mem_of_getElem? hd)
    simp
    omega
  · intro G f x a b _ _ _ _ ih _ K hK
    have := ih K hK
    simp at this ⊢
    omega
  · intro G a t b _ _ _ ih K hK
    have := ih (a.length + K) (fun c hc => by
      rcases List.mem_cons.mp hc with e | e
      · rw [e]; omega
      · have := hK c e; omega)
    simp at this ⊢
    omega
theorem ty_take {t b : List Int} (h : isTm [] t b) (hl : t.length ≤ 40) : b.take 81 = b := by
  have := ty_len h 0 (by simp)
  exact List.take_of_length_le (by omega)
theorem tk1 (a l r : List Int) (n : Nat) : (a ++ (l.take n ++ r)).take n = (a ++ (l ++ r)).take n := by
  by_cases h : l.length ≤ n
  · rw [List.take_of_length_le h]
  · have h1 : (l.take n).length = n := by rw [List.length_take]; omega
    rw [List.take_append, List.take_append, List.take_append, List.take_append, List.take_take, h1, Nat.min_eq_left (by omega), show n - a.length - n = 0 by omega, show n - a.length - l.length = 0 by omega]
theorem tk2 (a l : List Int) (n : Nat) : (a ++ l.take n).take n = (a ++ l).take n := by
  have := tk1 a l [] n
  simpa using this
theorem atL_0 {x : Int} {l : List Int} : atL (x :: l) 0 = x := atL_n (i := 0) rfl
theorem atL_1 {x y : Int} {l : List Int} : atL (x :: y :: l) 1 = y := atL_n (i := 1) rfl
theorem atL_2 {x y z : Int} {l : List Int} : atL (x :: y :: z :: l) 2 = z := atL_n (i := 2) rfl
theorem atL_3 {x y z u : Int} {l : List Int} : atL (x :: y :: z :: u :: l) 3 = u := atL_n (i := 3) rfl
theorem nn_tm {G : List (List Int)} {t b : List Int} (h : isTm G t b) : nn1 t := fun s hs => (isTm_sym h s hs).1
theorem nn_ty {t : List Int} (h : isTy t) : nn1 t := fun s hs => (isTy_sym h s hs).1
