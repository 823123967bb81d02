/-! the class holds the machine -/
def cS (h : xH) (c k : Nat) : Prop := h.1[0]? = some (.inr (.inr (7, [.inr (some 1), .inr (some 6), .inr (some 8), .inr (some 10), .inr (some 12), .inr (some 13), .inr (some 14), .inl (c : Int), .inl (k : Int)])))
/-- a list of items on a shelf, the first at place 0 -/
def cL (h : xH) (a ra N : Nat) (xs : List oB) : Prop := ∃ q, shF h a ra N xs.length q ∧ ∀ (i : Nat) (x : oB), xs[i]? = some x → ∃ b, q[i]? = some (some b) ∧ itA h b x
def cK (h : xH) (xs : List oB) : Prop := cL h 6 7 12 xs.reverse
def cDi (h : xH) (D : Nat → Option oB) : Prop := ∃ q : List (Option Nat), h.1[12]? = some (.inr (.inl (1, q))) ∧ q.length = 6 ∧ ∀ k, k < 6 → (D k = none → q[k]? = some none) ∧ ∀ x, D k = some x → ∃ b, q[k]? = some (some b) ∧ itA h b x
def cC (h : xH) (cs : List (List Int)) : Prop := ∃ q : List (Option Nat), h.1[13]? = some (.inr (.inl (0, q))) ∧ q.length = 6 ∧ ∀ (i : Nat) (c : List Int), cs[i]? = some c → ∃ b, q[i]? = some (some b) ∧ rwA h b c
def cP (h : xH) : Prop := scP h [] ∧ scX h ∧ scB h []
def cM (h : xH) (M : mS) : Prop := cS h M.2.2.2.2.1.length M.2.2.2.2.2 ∧ cP h ∧ cK h M.1 ∧ cDi h M.2.1 ∧ cL h 8 9 5 M.2.2.1 ∧ cL h 10 11 5 M.2.2.2.1 ∧ cC h M.2.2.2.2.1 ∧ hyA h 14 [] ∧ 23 ≤ h.1.length
section CF
variable {P : Nat → Prop} {C S : Nat} {h hf : xH}
theorem cS_gr {c k : Nat} (hc : cS h c k) (hg : gr P C S h hf) (h0 : ¬ P 0) : cS hf c k := hg.2 0 _ h0 hc
theorem shF_gr {a ra N n : Nat} {q : List (Option Nat)} (hs : shF h a ra N n q) (hg : gr P C S h hf) (h1 : ¬ P a) (h2 : ¬ P ra) : shF hf a ra N n q := by
  obtain ⟨c1, c2, c3⟩ := hs
  exact ⟨hg.2 a _ h1 c1, hg.2 ra _ h2 c2, c3⟩
theorem cL_gr {a ra N : Nat} {xs : List oB} (hl : cL h a ra N xs) (hg : gr P C S h hf) (h1 : ¬ P a) (h2 : ¬ P ra) (hP : ∀ i, 14 ≤ i → ¬ P i) : cL hf a ra N xs := by
  obtain ⟨q, q1, q2⟩ := hl
  refine ⟨q, shF_gr q1 hg h1 h2, fun i x hx => ?_⟩
  obtain ⟨b, b1, b2⟩ := q2 i x hx
  exact ⟨b, b1, itA_gr b2 hg hP⟩
theorem cDi_gr {D : Nat → Option oB} (hl : cDi h D) (hg : gr P C S h hf) (h1 : ¬ P 12) (hP : ∀ i, 14 ≤ i → ¬ P i) : cDi hf D := by
  obtain ⟨q, q1, q2, q3⟩ := hl
  refine ⟨q, hg.2 12 _ h1 q1, q2, fun k hk => ⟨(q3 k hk).1, fun x hx => ?_⟩⟩
  obtain ⟨b, b1, b2⟩ := (q3 k hk).2 x hx
  exact ⟨b, b1, itA_gr b2 hg hP⟩
theorem cC_gr {cs : List (List Int)} (hl : cC h cs) (hg : gr P C S h hf) (h1 : ¬ P 13) (hP : ∀ i, 14 ≤ i → ¬ P i) : cC hf cs := by
  obtain ⟨q, q1, q2, q3⟩ := hl
  refine ⟨q, hg.2 13 _ h1 q1, q2, fun i c hc => ?_⟩
  obtain ⟨b, b1, b2⟩ := q3 i c hc
  exact ⟨b, b1, rwA_lo b2 hg (fun i hi => hP i (by omega))⟩
/-- what the scribe changes leaves the machine -/
theorem cM_gr {M : mS} (hm : cM h M) (hg : gr P C S h hf) (hp : cP hf) (hP : ∀ i, P i → 1 ≤ i ∧ i ≤ 5) : cM hf M := by
  obtain ⟨m1, m2, m3, m4, m5, m6, m7, m8, m9⟩ := hm
  have n : ∀ i, 6 ≤ i → ¬ P i := fun i hi e => by have := hP i e; omega
  have n14 : ∀ i, 14 ≤ i → ¬ P i := fun i hi => n i (by omega)
  exact ⟨cS_gr m1 hg (fun e => by have := hP 0 e; omega), hp, cL_gr m3 hg (n 6 (by omega)) (n 7 (by omega)) n14, cDi_gr m4 hg (n 12 (by omega)) n14, cL_gr m5 hg (n 8 (by omega)) (n 9 (by omega)) n14, cL_gr m6 hg (n 10 (by omega)) (n 11 (by omega)) n14, cC_gr m7 hg (n 13 (by omega)) n14, hyA_gr m8 hg n14, Nat.le_trans m9 hg.1.1⟩
theorem cP_gr (hp : cP h) (hg : gr P C S h hf) (hP : ∀ i, (1 ≤ i ∧ i ≤ 5) ∨ 23 ≤ i → ¬ P i) : cP hf := by
  obtain ⟨p1, ⟨q, B, p2⟩, p3⟩ := hp
  exact ⟨scP_gr p1 hg (hP 1 (by omega)) (hP 2 (by omega)), ⟨q, B, scD_gr p2 hg (hP 3 (by omega)) (hP 4 (by omega))⟩, scB_gr p3 hg (hP 5 (by omega)) (fun i hi => hP i (Or.inr hi))⟩
/-- new cells alone -/
theorem cM_new {M : mS} (hm : cM h M) (hg : gr (fun _ => False) C S h hf) : cM hf M := cM_gr hm hg (cP_gr hm.2.1 hg (fun _ _ e => e)) (fun _ e => e.elim)
end CF
