/-! class and reference in one heap -/
def refA (h : xH) (q : rS) : Prop := ∃ E : rE, E.1.length = 16 ∧ h = rH E q
theorem rC_E {E E' : rE} {q : rS} (h : E.1.length = E'.1.length) : rC E q = rC E' q := by
  unfold rC rF rA
  rw [h]
theorem rC_len (E : rE) (q : rS) : (rC E q).length = 7 := rfl
theorem rH_lo {E : rE} {q : rS} {i : Nat} (hE : E.1.length = 16) (hi : i < 16) : (rH E q).1[i]? = E.1[i]? := by
  unfold rH
  rw [List.getElem?_append_left (by omega)]
theorem rH_mid {E : rE} {q : rS} {i : Nat} (hE : E.1.length = 16) (h1 : 16 ≤ i) (h2 : i < 23) : (rH E q).1[i]? = (rC E q)[i - 16]? := by
  unfold rH
  rw [List.getElem?_append_right (by omega), hE, List.getElem?_append_left (by rw [rC_len]; omega)]
theorem rH_hi {E : rE} {q : rS} {i : Nat} (hE : E.1.length = 16) (h1 : 23 ≤ i) : (rH E q).1[i]? = E.2.1[i - 23]? := by
  unfold rH
  rw [List.getElem?_append_right (by omega), hE, List.getElem?_append_right (by rw [rC_len]; omega), rC_len]
  congr 1
theorem refA_gr {h hf : xH} {q : rS} {C S : Nat} (hr : refA h q) (hg : gr pA C S h hf) : refA hf q := by
  obtain ⟨E, hE, e⟩ := hr
  subst e
  have hlen : (rH E q).1.length = 23 + E.2.1.length := by
    unfold rH
    simp [rC_len, hE]
    omega
  have hl := hg.1.1
  rw [hlen] at hl
  have hE' : (hf.1.take 16).length = 16 := by rw [List.length_take]; omega
  refine ⟨(hf.1.take 16, hf.1.drop 23, hf.2), hE', ?_⟩
  have key : hf.1 = hf.1.take 16 ++ (rC (hf.1.take 16, hf.1.drop 23, hf.2) q ++ hf.1.drop 23) := by
    apply List.ext_getElem?
    intro i
    by_cases h1 : i < 16
    · rw [List.getElem?_append_left (by omega), List.getElem?_take, if_pos h1]
    rw [List.getElem?_append_right (by omega), hE']
    by_cases h2 : i < 23
    · rw [List.getElem?_append_left (by rw [rC_len]; omega), rC_E (E' := E) (by rw [hE]; exact hE')]
      have hc : i - 16 < (rC E q).length := by rw [rC_len]; omega
      rw [List.getElem?_eq_getElem hc]
      refine hg.2 i _ (fun e => by have : i < 14 := e; omega) ?_
      rw [rH_mid hE (by omega) h2, List.getElem?_eq_getElem hc]
    · rw [List.getElem?_append_right (by rw [rC_len]; omega), rC_len, List.getElem?_drop]
      congr 1
      omega
  show hf = rH _ q
  unfold rH
  exact Prod.ext key rfl
section CR
theorem ref_gr {E : rE} {q q' : rS} (hE : E.1.length = 16) : gr (fun i => 16 ≤ i ∧ i < 23) 0 0 (rH E q) (rH E q') := by
  have hl : (rH E q).1.length = (rH E q').1.length := by
    unfold rH
    simp [rC_len]
  refine ⟨⟨by omega, by omega, Nat.le_refl _, Nat.le_refl _⟩, fun i c hi e => ?_⟩
  by_cases h1 : i < 16
  · rw [rH_lo hE h1] at e ⊢; exact e
  · have h2 : 23 ≤ i := by omega
    rw [rH_hi hE h2] at e ⊢; exact e
theorem ref_cell {E : rE} {q : rS} (hE : E.1.length = 16) {i : Nat} {c : xC} (h1 : 16 ≤ i ∧ i < 23) (e : (rH E q).1[i]? = some c) : (∃ l, c = .inl l) ∨ ∃ fs, c = .inr (.inr (8, fs)) := by
  rw [rH_mid hE h1.1 h1.2] at e
  unfold rC at e
  rcases (show i = 16 ∨ i = 17 ∨ i = 18 ∨ i = 19 ∨ i = 20 ∨ i = 21 ∨ i = 22 by omega) with h | h | h | h | h | h | h <;> subst h <;> simp at e <;> subst e
  · exact Or.inr ⟨_, rfl⟩
  all_goals exact Or.inl ⟨_, rfl⟩
theorem rwA_ref {E : rE} {q q' : rS} (hE : E.1.length = 16) {a : Nat} {l : List Int} (h : rwA (rH E q) a l) : rwA (rH E q') a l := rwA_lo h (ref_gr hE) (fun i hi e => by have := e.2; omega)
theorem hyA_ref {E : rE} {q q' : rS} (hE : E.1.length = 16) {a : Nat} {hs : List (List Int)} (h : hyA (rH E q) a hs) : hyA (rH E q') a hs := by
  obtain ⟨h1, ra, qq, h2, h3, h4, h5, h6, h7⟩ := h
  refine ⟨h1, ra, qq, h2, (ref_gr hE).2 a _ (fun e => ?_) h3, (ref_gr hE).2 ra _ (fun e => ?_) h4, h5, h6, fun i l hl => ?_⟩
  · rcases ref_cell hE e h3 with ⟨l, e⟩ | ⟨fs, e⟩ <;> simp at e
  · rcases ref_cell hE e h4 with ⟨l, e⟩ | ⟨fs, e⟩ <;> simp at e
  · obtain ⟨b, b1, b2⟩ := h7 i l hl
    exact ⟨b, b1, rwA_ref hE b2⟩
theorem itA_ref {E : rE} {q q' : rS} (hE : E.1.length = 16) {a : Nat} {x : oB} (h : itA (rH E q) a x) : itA (rH E q') a x := by
  obtain ⟨h1, m, y, h2, h3, h4⟩ := h
  exact ⟨h1, m, y, (ref_gr hE).2 a _ (fun e => by have := e.2; omega) h2, rwA_ref hE h3, hyA_ref hE h4⟩
theorem cL_ref {E : rE} {q q' : rS} (hE : E.1.length = 16) {a ra N : Nat} {xs : List oB} (ha : a < 14) (hra : ra < 14) (h : cL (rH E q) a ra N xs) : cL (rH E q') a ra N xs := by
  obtain ⟨p, p1, p2⟩ := h
  refine ⟨p, shF_gr p1 (ref_gr hE) (by omega) (by omega), fun i x hx => ?_⟩
  obtain ⟨b, b1, b2⟩ := p2 i x hx
  exact ⟨b, b1, itA_ref hE b2⟩
theorem cM_ref {E : rE} {q q' : rS} (hE : E.1.length = 16) {M : mS} (h : cM (rH E q) M) : cM (rH E q') M := by
  obtain ⟨m1, m2, m3, ⟨p, p1, p2, p3⟩, m5, m6, ⟨c, c1, c2, c3⟩, m8, m9⟩ := h
  have g := ref_gr (q := q) (q' := q') hE
  refine ⟨cS_gr m1 g (by omega), cP_gr m2 g (fun i hi => by omega), cL_ref hE (by decide) (by decide) m3, ⟨p, g.2 12 _ (by omega) p1, p2, fun k hk => ⟨(p3 k hk).1, fun x hx => ?_⟩⟩, cL_ref hE (by decide) (by decide) m5, cL_ref hE (by decide) (by decide) m6, ⟨c, g.2 13 _ (by omega) c1, c2, fun i x hx => ?_⟩, hyA_ref hE m8, Nat.le_trans m9 g.1.1⟩
  · obtain ⟨b, b1, b2⟩ := (p3 k hk).2 x hx
    exact ⟨b, b1, itA_ref hE b2⟩
  · obtain ⟨b, b1, b2⟩ := c3 i x hx
    exact ⟨b, b1, rwA_ref hE b2⟩
end CR
/-- both hold the same machine -/
def inv (h : xH) (M : mS) (q : rS) : Prop := gM M ∧ cM h M ∧ refA h q ∧ Rl q M
theorem inv_16 {h : xH} {M : mS} {q : rS} (hv : inv h M q) : ∃ fs, h.1[16]? = some (.inr (.inr (8, fs))) := by
  obtain ⟨-, -, ⟨E, hE, e⟩, -⟩ := hv
  subst e
  rw [rH_mid hE (by omega) (by omega)]
  exact ⟨_, rfl⟩
/-- a call of both -/
def two (Mc Mr : xM) (as : List xV) (h : xH) (v : Int) (h1 h2 : xH) : Prop := x_M Mc (.inr (some 0) :: as) h (some (.inl v)) h1 ∧ x_M Mr (.inr (some 16) :: as) h1 (some (.inl v)) h2 ∧ (∃ fs, h.1[0]? = some (.inr (.inr (7, fs)))) ∧ (∃ fs, h1.1[16]? = some (.inr (.inr (8, fs)))) ∧ h.1.length ≤ h1.1.length ∧ h.2 ≤ h1.2 ∧ h1.1.length ≤ h.1.length + 250 ∧ h1.2 ≤ h.2 + 1500 ∧ h2.1.length = h1.1.length ∧ h2.2 = h1.2
theorem cmd2 {Mc Mr : xM} {as : List xV} {h : xH} {M : mS} {q : rS} {o : Int × mS} (hv : inv h M q) (hc : x_Mx Mc (.inr (some 0) :: as) h (clP 250 1500 h o)) (hr : rM Mr as q (fun r q' => r = some (.inl o.1) ∧ Rl q' o.2)) (hg : gM o.2) : ∃ h1 h2 q', two Mc Mr as h o.1 h1 h2 ∧ inv h2 o.2 q' := by
  obtain ⟨-, k2, k3, k4⟩ := hv
  obtain ⟨r, h1, x1, e1, m1, g1⟩ := hc
  subst e1
  obtain ⟨E, hE, e⟩ := refA_gr k3 g1
  obtain ⟨r2, h2, x2, q', e2, e3, hR⟩ := hr E
  rw [hE] at x2
  rw [← e] at x2
  subst e3
  rw [e] at m1
  have g2 := ref_gr (q := q) (q' := q') hE
  rw [← e] at g2
  refine ⟨h1, h2, q', ⟨x1, x2, ⟨_, k2.1⟩, ?_, g1.1.1, g1.1.2.2.1, g1.1.2.1, g1.1.2.2.2, ?_, ?_⟩, hg, ?_, ⟨E, hE, e2⟩, hR⟩
  · rw [e, rH_mid hE (by omega) (by omega)]
    exact ⟨_, rfl⟩
  · rw [e2]; have := g2.1; omega
  · rw [e2]; have := g2.1; omega
  · rw [e2]; exact cM_ref hE m1
theorem ask2 {Mc Mr : xM} {as : List xV} {h : xH} {M : mS} {q : rS} {v : Int} (hv : inv h M q) (hc : x_Mx Mc (.inr (some 0) :: as) h (fun r hf => r = some (.inl v) ∧ hf = h)) (hr : rM Mr as q (fun r q' => r = some (.inl v) ∧ q' = q)) : ∃ h1 h2 q', two Mc Mr as h v h1 h2 ∧ inv h2 M q' := by
  refine cmd2 (o := (v, M)) hv (x_Mq hc (fun r hf e => ⟨e.1, by rw [e.2]; exact hv.2.1, by rw [e.2]; exact gr_w (gr_rf pA h) (fun _ _ e => e) (by omega) (by omega)⟩)) ?_ hv.1
  intro E
  obtain ⟨r, h', x, q', e1, e2, e3⟩ := hr E
  exact ⟨r, h', x, q', e1, e2, by rw [e3]; exact hv.2.2.2⟩
theorem inv_0 {h : xH} {n : Nat} (hm : cM0 h) (hl : h.1.length = 16) : inv (rH (h.1, [], n) q0i) mS0 q0i := by
  have g : gr (fun _ => False) 7 (n - h.2) (h.1, min h.2 n) (rH (h.1, [], n) q0i) := by
    refine ⟨⟨by unfold rH; simp, by unfold rH; simp [rC_len], Nat.min_le_right _ _, by show n ≤ min h.2 n + (n - h.2); omega⟩, fun i c _ e => ?_⟩
    unfold rH
    have e' : h.1[i]? = some c := e
    rw [List.getElem?_append_left (List.getElem?_eq_some_iff.mp e').1]
    exact e'
  obtain ⟨m1, m2, m3, m4, m5, m6, m7, m8⟩ := hm
  have cast : ∀ {P : xH → Prop}, P h → (∀ n, P h → P (h.1, n)) → P (h.1, min h.2 n) := fun a b => b _ a
  have p2 : cP (h.1, min h.2 n) := by
    obtain ⟨⟨a, b⟩, ⟨c, d, e, f⟩, ⟨u, v, w, x⟩⟩ := m2
    exact ⟨⟨a, b⟩, ⟨c, d, e, f⟩, ⟨u, v, w, fun d c hd => by simp at hd⟩⟩
  have p8 : hyA (h.1, min h.2 n) 14 [] := by
    obtain ⟨a, ra, b, c, d, e, f, g, -⟩ := m8
    exact ⟨a, ra, b, c, d, e, f, g, fun i l hl => by simp at hl⟩
  have pl : ∀ {a ra N : Nat}, cL h a ra N [] → cL (h.1, min h.2 n) a ra N [] := fun {a ra N} hh => by
    obtain ⟨p, p1, -⟩ := hh
    exact ⟨p, p1, fun i x hx => by simp at hx⟩
  refine ⟨gM_0, ⟨cS_gr (h := (h.1, min h.2 n)) m1 g (fun e => e), cP_gr p2 g (fun _ _ e => e), cL_gr (pl m3) g (fun e => e) (fun e => e) (fun _ _ e => e), ?_, cL_gr (pl m5) g (fun e => e) (fun e => e) (fun _ _ e => e), cL_gr (pl m6) g (fun e => e) (fun e => e) (fun _ _ e => e), ?_, hyA_gr p8 g (fun _ _ e => e), by unfold rH; simp [rC_len]; omega⟩, ⟨_, hl, rfl⟩, Rl_0⟩
  · obtain ⟨p, p1, p2, p3⟩ := m4
    exact ⟨p, g.2 12 _ (fun e => e) p1, p2, fun k hk => ⟨(p3 k hk).1, fun x hx => by cases hx⟩⟩
  · obtain ⟨p, p1, p2, p3⟩ := m7
    exact ⟨p, g.2 13 _ (fun e => e) p1, p2, fun i c hc => by simp [mS0] at hc⟩
