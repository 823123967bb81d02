/-! the class: calls, rows, what stays -/
section XE
variable {M : xM} {pc : Nat} {L : List (Option xV)} {st : List xV} {h : xH} {Q : Option xV → xH → Prop}
theorem xcV {M' : xM} {idx n a ci : Nat} {as rest fs : List xV} {Q' : Option xV → xH → Prop} (hd : decode M.2.1 pc = .ok (.invokevirtual idx, 3)) (hcd : x_cd M' n) (hml : x_ml M.1.cls idx M'.1) (hin : Cond.instanceMethod M'.1 ∈ x_ws ∧ Cond.selects M'.1.cls M'.1 M'.1 ∈ x_ws) (hrr : x_rr M M') (hn : as.length = n) (hst : st = as.reverse ++ .inr (some a) :: rest) (ha : h.1[a]? = some (.inr (.inr (ci, fs)))) (hci : (cl_s[ci]?).map (fun z => z.1) = some M'.1.cls) (hrest : rest.length ≤ 8) (hM : x_Mx M' (.inr (some a) :: as) h Q') (kk : ∀ r hf, Q' r hf → x_X M (pc + 3) L (r.toList ++ rest) hf Q) : x_X M pc L st h Q := by
  obtain ⟨r, hf, hm, hq⟩ := hM
  exact xx (xs_callV hd hcd hml hin hrr hn hst ha hci hrest hm) (kk r hf hq)
theorem xcI {M' : xM} {idx n a : Nat} {as rest : List xV} {Q' : Option xV → xH → Prop} (hd : decode M.2.1 pc = .ok (.invokespecial idx, 3)) (hcd : x_cd M' n) (hml : x_ml M.1.cls idx M'.1) (hin : Cond.instanceMethod M'.1 ∈ x_ws ∧ M'.1.name = "<init>" ∧ M'.2.2.2.1 = none) (hrr : x_rr M M') (hn : as.length = n) (hst : st = as.reverse ++ .inr (some a) :: rest) (hrest : rest.length ≤ 8) (hM : x_Mx M' (.inr (some a) :: as) h (fun r hf => r = none ∧ Q' r hf)) (kk : ∀ r hf, Q' r hf → x_X M (pc + 3) L rest hf Q) : x_X M pc L st h Q := by
  obtain ⟨r, hf, hm, hr, hq⟩ := hM
  subst hr
  exact xx (xs_callI hd hcd hml hin hrr hn hst hrest hm) (kk none hf hq)
theorem xcS {M' : xM} {idx n : Nat} {as rest : List xV} {Q' : Option xV → xH → Prop} (hd : decode M.2.1 pc = .ok (.invokestatic idx, 3)) (hcd : x_cd M' n) (hml : x_ml M.1.cls idx M'.1) (hin : Cond.static M'.1 ∈ x_ws) (hrr : x_rr M M') (hn : as.length = n) (hst : st = as.reverse ++ rest) (hrest : rest.length ≤ 8) (hM : x_Mx M' as h Q') (kk : ∀ r hf, Q' r hf → x_X M (pc + 3) L (r.toList ++ rest) hf Q) : x_X M pc L st h Q := by
  obtain ⟨r, hf, hm, hq⟩ := hM
  exact xx (xs_callS hd hcd hml hin hrr hn hst hrest hm) (kk r hf hq)
theorem xxq {Q' : Option xV → xH → Prop} (hx : x_X M pc L st h Q') (hq : ∀ r hf, Q' r hf → Q r hf) : x_X M pc L st h Q := by
  obtain ⟨r, hf, hb, h1⟩ := hx
  exact ⟨r, hf, hb, hq r hf h1⟩
end XE
theorem x_Mq {M : xM} {as : List xV} {h : xH} {Q Q' : Option xV → xH → Prop} (hx : x_Mx M as h Q') (hq : ∀ r hf, Q' r hf → Q r hf) : x_Mx M as h Q := by
  obtain ⟨r, hf, hb, h1⟩ := hx
  exact ⟨r, hf, hb, hq r hf h1⟩
/-- the cells that may have changed, how many came, how many slots -/
def gr (P : Nat → Prop) (C S : Nat) (h hf : xH) : Prop := (h.1.length ≤ hf.1.length ∧ hf.1.length ≤ h.1.length + C ∧ h.2 ≤ hf.2 ∧ hf.2 ≤ h.2 + S) ∧ ∀ (i : Nat) (c : xC), ¬ P i → h.1[i]? = some c → hf.1[i]? = some c
theorem gr_rf (P : Nat → Prop) (h : xH) : gr P 0 0 h h := ⟨⟨Nat.le_refl _, Nat.le_refl _, Nat.le_refl _, Nat.le_refl _⟩, fun _ _ _ e => e⟩
theorem gr_tr {P P' : Nat → Prop} {C S C' S' C2 S2 : Nat} {h h1 h2 : xH} (a : gr P C S h h1) (b : gr P' C' S' h1 h2) (hP : ∀ i, i < h.1.length → P' i → P i) (hC : C + C' ≤ C2) (hS : S + S' ≤ S2) : gr P C2 S2 h h2 := by
  obtain ⟨⟨a1, a2, a3, a4⟩, a5⟩ := a
  obtain ⟨⟨b1, b2, b3, b4⟩, b5⟩ := b
  exact ⟨⟨by omega, by omega, by omega, by omega⟩, fun i c hi e => b5 i c (fun hp => hi (hP i (List.getElem?_eq_some_iff.mp e).1 hp)) (a5 i c hi e)⟩
theorem gr_w {P P' : Nat → Prop} {C S C' S' : Nat} {h h1 : xH} (a : gr P C S h h1) (hP : ∀ i, i < h.1.length → P i → P' i) (hC : C ≤ C') (hS : S ≤ S') : gr P' C' S' h h1 := by
  obtain ⟨⟨a1, a2, a3, a4⟩, a5⟩ := a
  exact ⟨⟨by omega, by omega, by omega, by omega⟩, fun i c hi e => a5 i c (fun hp => hi (hP i (List.getElem?_eq_some_iff.mp e).1 hp)) e⟩
theorem gr_set {h : xH} {a : Nat} {c : xC} : gr (fun i => i = a) 0 0 h (h.1.set a c, h.2) := ⟨⟨by simp, by simp, Nat.le_refl _, Nat.le_refl _⟩, fun i c hi e => by rw [List.getElem?_set_ne (fun x => hi x.symm)]; exact e⟩
theorem gr_push (P : Nat → Prop) {h : xH} {c : xC} {n : Nat} : gr P 1 n h (h.1 ++ [c], h.2 + n) := ⟨⟨by simp, by simp, by simp, by simp⟩, fun i c hi e => by rw [List.getElem?_append_left (List.getElem?_eq_some_iff.mp e).1]; exact e⟩
theorem push_at {l : List xC} {c : xC} : (l ++ [c])[l.length]? = some c := by simp
theorem set_at {l : List xC} {a : Nat} {c d : xC} (h : l[a]? = some d) : (l.set a c)[a]? = some c := by rw [List.getElem?_set_self (List.getElem?_eq_some_iff.mp h).1]
/-- a row: its object and its array; its symbols -/
def rwA (h : xH) (a : Nat) (l : List Int) : Prop := 23 ≤ a ∧ irL l ∧ ∃ (s f : Nat) (A : List Int), 23 ≤ s ∧ h.1[a]? = some (.inr (.inr (4, [.inr (some s), .inl (f : Int), .inl (l.length : Int)]))) ∧ h.1[s]? = some (.inl A) ∧ A.length ≤ 81 ∧ f + l.length ≤ A.length ∧ ∀ (i : Nat) (x : Int), l[i]? = some x → A[f + i]? = some x
theorem rwA_gr {P : Nat → Prop} {C S : Nat} {h hf : xH} {a : Nat} {l : List Int} (hr : rwA h a l) (hg : gr P C S h hf) (hP : ∀ i c, 23 ≤ i → h.1[i]? = some c → P i → (∃ q, c = .inr (.inl q)) ∨ ∃ fs, c = .inr (.inr (2, fs))) : rwA hf a l := by
  obtain ⟨r1, r2, s, f, A, r3, r4, r5, r6⟩ := hr
  refine ⟨r1, r2, s, f, A, r3, hg.2 a _ (fun hp => ?_) r4, hg.2 s _ (fun hp => ?_) r5, r6⟩
  · rcases hP a _ r1 r4 hp with ⟨q, e⟩ | ⟨fs, e⟩ <;> simp at e
  · rcases hP s _ r3 r5 hp with ⟨q, e⟩ | ⟨fs, e⟩ <;> simp at e
theorem rwA_lo {P : Nat → Prop} {C S : Nat} {h hf : xH} {a : Nat} {l : List Int} (hr : rwA h a l) (hg : gr P C S h hf) (hP : ∀ i, 23 ≤ i → ¬ P i) : rwA hf a l := rwA_gr hr hg (fun i _ hi _ hp => absurd hp (hP i hi))
theorem rwA_len {h : xH} {a : Nat} {l : List Int} (hr : rwA h a l) : l.length ≤ 81 := by
  obtain ⟨r1, r2, s, f, A, r3, r4, r5, r6, r7, r8⟩ := hr
  omega
/-- the symbol at a place, or -1 -/
def atL (l : List Int) (p : Int) : Int := if 0 ≤ p ∧ p < (l.length : Int) then l.getD p.toNat 0 else -1
theorem atL_n {l : List Int} {i : Nat} {x : Int} (h : l[i]? = some x) : atL l (i : Int) = x := by
  have := (List.getElem?_eq_some_iff.mp h).1
  unfold atL
  rw [if_pos (by omega), Int.toNat_natCast, List.getD_eq_getElem?_getD, h]
  rfl
theorem atL_o {l : List Int} {p : Int} (h : p < 0 ∨ (l.length : Int) ≤ p) : atL l p = -1 := by
  unfold atL
  rw [if_neg (by omega)]
theorem atL_ir {l : List Int} (h : irL l) (p : Int) : ir (atL l p) := by
  unfold atL
  split
  · rename_i hp
    rw [List.getD_eq_getElem?_getD, List.getElem?_eq_getElem (by omega)]
    exact h _ (List.getElem_mem _)
  · unfold ir; omega
