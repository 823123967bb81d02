/-! the machine as a value: stack (the top first), dictionary, assumed, exported, the constants' types, commands -/
abbrev mS : Type := List oB × (Nat → Option oB) × List oB × List oB × List (List Int) × Nat
noncomputable def ifc {α : Type} (p : Prop) (a b : α) : α := @ite α p (Classical.propDecidable p) a b
theorem ifc_t {α : Type} {p : Prop} (h : p) (a b : α) : ifc p a b = a := by unfold ifc; exact if_pos h
theorem ifc_f {α : Type} {p : Prop} (h : ¬ p) (a b : α) : ifc p a b = b := by unfold ifc; exact if_neg h
noncomputable def tyO (t : List Int) : List Int := Classical.epsilon (fun a => isTm [] t a)
theorem tyO_of {t a : List Int} (h : isTm [] t a) : tyO t = a := (isTm_uni h _ (Classical.epsilon_spec (p := fun a => isTm [] t a) ⟨a, h⟩)).symm
def kd (M : mS) (i : Nat) : Int := match M.1[i]? with
  | some x => x.1
  | none => -1
def mn (M : mS) (i : Nat) : List Int := match M.1[i]? with
  | some x => x.2.1
  | none => []
def hp (M : mS) (i : Nat) : List (List Int) := match M.1[i]? with
  | some x => x.2.2
  | none => []
theorem kd_of {M : mS} {i : Nat} {x : oB} (h : M.1[i]? = some x) : kd M i = x.1 ∧ mn M i = x.2.1 ∧ hp M i = x.2.2 := by
  unfold kd mn hp
  rw [h]
  exact ⟨rfl, rfl, rfl⟩
theorem kd_some {M : mS} {i : Nat} (h : ¬ kd M i = -1) : ∃ x, M.1[i]? = some x ∧ kd M i = x.1 ∧ mn M i = x.2.1 ∧ hp M i = x.2.2 := by
  cases hx : M.1[i]? with
  | none => unfold kd at h; rw [hx] at h; exact absurd rfl h
  | some x => exact ⟨x, rfl, kd_of hx⟩
def pu (M : mS) (n : Nat) (x : oB) : mS := (x :: M.1.drop n, M.2.1, M.2.2.1, M.2.2.2.1, M.2.2.2.2.1, M.2.2.2.2.2 + 1)
/-- the end of a command: too large, or no command left, or done -/
def fi (M : mS) (n : Nat) (x : oB) (b : Bool) : Int × mS := if b = true ∨ M.2.2.2.2.2 = 120 then (4, M) else (0, pu M n x)
/-! what is on the stack, in the dictionary and the lists is well made -/
def srt : List (List Int) → Prop
  | [] => True
  | h :: hs => (∀ h' ∈ hs, cm h h' = -1) ∧ srt hs
def gO (x : oB) : Prop := (x.1 = 0 ∧ isTy x.2.1 ∧ x.2.1.length ≤ 15 ∧ x.2.2 = []) ∨ (x.1 = 1 ∧ (∃ a, isTm [] x.2.1 a) ∧ x.2.1.length ≤ 40 ∧ x.2.2 = []) ∨ (x.1 = 2 ∧ isTm [] x.2.1 [1] ∧ x.2.1.length ≤ 40 ∧ x.2.2.length ≤ 3 ∧ srt x.2.2 ∧ ∀ h ∈ x.2.2, isTm [] h [1] ∧ h.length ≤ 40)
def gM (M : mS) : Prop := (∀ x ∈ M.1, gO x) ∧ (∀ k x, M.2.1 k = some x → gO x) ∧ (∀ x ∈ M.2.2.1, gO x) ∧ (∀ x ∈ M.2.2.2.1, gO x) ∧ (∀ c ∈ M.2.2.2.2.1, isTy c ∧ c.length ≤ 40) ∧ M.1.length ≤ 12 ∧ M.2.2.1.length ≤ 5 ∧ M.2.2.2.1.length ≤ 5 ∧ M.2.2.2.2.1.length ≤ 6 ∧ M.2.2.2.2.2 ≤ 120
theorem gO_k {x : oB} (h : gO x) : x.1 = 0 ∨ x.1 = 1 ∨ x.1 = 2 := by
  rcases h with h | h | h
  · exact Or.inl h.1
  · exact Or.inr (Or.inl h.1)
  · exact Or.inr (Or.inr h.1)
theorem gO_0 {x : oB} (h : gO x) (k : x.1 = 0) : isTy x.2.1 ∧ x.2.1.length ≤ 15 ∧ x.2.2 = [] := by
  rcases h with h | h | h
  · exact h.2
  · exact absurd (k.symm.trans h.1) (by decide)
  · exact absurd (k.symm.trans h.1) (by decide)
theorem gO_1 {x : oB} (h : gO x) (k : x.1 = 1) : (∃ a, isTm [] x.2.1 a) ∧ x.2.1.length ≤ 40 ∧ x.2.2 = [] := by
  rcases h with h | h | h
  · exact absurd (k.symm.trans h.1) (by decide)
  · exact h.2
  · exact absurd (k.symm.trans h.1) (by decide)
theorem gO_2 {x : oB} (h : gO x) (k : x.1 = 2) : isTm [] x.2.1 [1] ∧ x.2.1.length ≤ 40 ∧ x.2.2.length ≤ 3 ∧ srt x.2.2 ∧ ∀ h ∈ x.2.2, isTm [] h [1] ∧ h.length ≤ 40 := by
  rcases h with h | h | h
  · exact absurd (k.symm.trans h.1) (by decide)
  · exact absurd (k.symm.trans h.1) (by decide)
  · exact h.2
theorem gM_top {M : mS} {i : Nat} {x : oB} (h : gM M) (hi : M.1[i]? = some x) : gO x := h.1 x (List.mem_of_getElem? hi)
theorem gO_ir {x : oB} (h : gO x) : irL x.2.1 ∧ ∀ y ∈ x.2.2, irL y := by
  rcases h with ⟨_, h1, _, h3⟩ | ⟨_, ⟨a, h1⟩, h2, h3⟩ | ⟨_, h1, h2, h3, _, h4⟩
  · exact ⟨isTy_ir h1, by rw [h3]; simp⟩
  · exact ⟨isTm_ir h1 (by simp; omega), by rw [h3]; simp⟩
  · exact ⟨isTm_ir h1 (by simp; omega), fun y hy => isTm_ir (h4 y hy).1 (by have := (h4 y hy).2; simp; omega)⟩
/-! the reference holds the machine -/
def Rl (q : rS) (M : mS) : Prop :=
  q 6 0 = (M.1.length : Int) ∧ (∀ (i : Nat) (x : oB), M.1[i]? = some x → rOb q (M.1.length - 1 - i) x) ∧
  (∀ k, k < 6 → (M.2.1 k = none → q 2 (12 + k) = -1) ∧ ∀ x, M.2.1 k = some x → rOb q (12 + k) x) ∧
  q 6 1 = (M.2.2.1.length : Int) ∧ (∀ (i : Nat) (x : oB), M.2.2.1[i]? = some x → rOb q (18 + i) x) ∧
  q 6 2 = (M.2.2.2.1.length : Int) ∧ (∀ (i : Nat) (x : oB), M.2.2.2.1[i]? = some x → rOb q (23 + i) x) ∧
  q 6 3 = (M.2.2.2.2.1.length : Int) ∧ (∀ (i : Nat) (c : List Int), M.2.2.2.2.1[i]? = some c → q 4 (i + 1) = (c.length : Int) ∧ sg q (4800 + 40 * (i + 1)) c) ∧
  q 6 4 = (M.2.2.2.2.2 : Int) ∧ lok q
/-- what a command that is under way may have changed -/
def frM (q q' : rS) : Prop := ∀ a k : Nat, ¬ tch 28 a k → ¬ (a = 0 ∧ 5200 ≤ k) → ¬ (a = 6 ∧ 5 ≤ k ∧ k ≤ 8) → ¬ a = 5 → q' a k = q a k
theorem frM_rf (q : rS) : frM q q := fun _ _ _ _ _ _ => rfl
theorem frM_tr {q q1 q2 : rS} (h1 : frM q q1) (h2 : frM q1 q2) : frM q q2 := fun a k a1 a2 a3 a4 => (h2 a k a1 a2 a3 a4).trans (h1 a k a1 a2 a3 a4)
theorem frM_emL {q : rS} {l : List Int} (h : 5200 ≤ q 6 5) : frM q (emL q l) := by
  intro a k h1 h2 h3 h4
  by_cases ha : a = 0
  · subst ha; exact emL_lo (by omega) (by omega)
  by_cases h6 : a = 6
  · subst h6; exact emL_s (by omega)
  · exact emL_a ha h6
theorem frM_wb (q : rS) (B : Nat → Int) : frM q (wb q B) := by
  intro a k h1 h2 h3 h4
  unfold wb
  rw [if_neg h4]
theorem frM_u6 {q : rS} {j : Nat} {x : Int} (h : 5 ≤ j ∧ j ≤ 8) : frM q (u3 q 6 j x) := fun a k _ _ h3 _ => u3_ne (by omega)
theorem frM_28 {q : rS} {a j : Nat} {x : Int} (h : tch 28 a j) : frM q (u3 q a j x) := fun a' k h1 _ _ _ => u3_ne (fun e => h1 (by rw [e.1, e.2]; exact h))
theorem frM_bg (q : rS) : frM q (bg q) := by
  intro a k h1 h2 h3 h4
  unfold tch at h1
  unfold bg
  rw [u3_ne (by omega), u3_ne (by omega), u3_ne (by omega), u3_ne (by omega)]
theorem frM_part {q : rS} {i s n : Nat} (hi : i < 4) : frM q (u3 (cpF (bigU q n) (4480 + 40 * i) s (min n 40)) 1 (112 + i) (min n 40 : Nat)) := by
  intro a k h1 h2 h3 h4
  unfold tch at h1
  rw [u3_ne (by omega), cpF_out (by omega)]
  unfold bigU
  split
  · exact u3_ne (by omega)
  · rfl
theorem frM_B {q q' : rS} (h : frB q q') : frM q q' := by
  intro a k h1 h2 h3 h4
  unfold tch at h1
  exact h a k (by omega) (by omega) (by omega) (by omega)
theorem frM_W {q q' : rS} (h : frW q q') (ho : 5200 ≤ q 6 5) : frM q q' := by
  intro a k h1 h2 h3 h4
  unfold tch at h1
  exact h a k (by omega) (by omega) (by omega) (by omega) (by omega)
theorem frM_ob {q q' : rS} {o : Nat} {x : oB} (h : frM q q') (ho : o < 28) (hx : rOb q o x) : rOb q' o x := rOb_fr hx (fun a k ht => h a k (by unfold tch at ht ⊢; omega) (by unfold tch at ht; omega) (by unfold tch at ht; omega) (by unfold tch at ht; omega))
theorem frM_sg {q q' : rS} {p : Nat} {l : List Int} (h : frM q q') (hs : sg q p l) (hp : p + l.length ≤ 4480 ∨ (4640 ≤ p ∧ p + l.length ≤ 5200)) : sg q' p l := sg_mono hs (fun k k1 k2 => h 0 k (by unfold tch; omega) (by omega) (by omega) (by omega))
theorem Rl_fr {q q' : rS} {M : mS} (hg : gM M) (hR : Rl q M) (h : frM q q') (hl : lok q') : Rl q' M := by
  obtain ⟨g1, g2, g3, g4, g5, g6, g7, g8, g9, g10⟩ := hg
  obtain ⟨r1, r2, r3, r4, r5, r6, r7, r8, r9, r10, r11⟩ := hR
  have s6 : ∀ k, k < 5 → q' 6 k = q 6 k := fun k hk => h 6 k (by unfold tch; omega) (by omega) (by omega) (by omega)
  refine ⟨by rw [s6 0 (by omega)]; exact r1, fun i x hi => ?_, fun k hk => ⟨fun hn => ?_, fun x hx => ?_⟩, by rw [s6 1 (by omega)]; exact r4, fun i x hi => ?_, by rw [s6 2 (by omega)]; exact r6, fun i x hi => ?_, by rw [s6 3 (by omega)]; exact r8, fun i c hc => ?_, by rw [s6 4 (by omega)]; exact r10, hl⟩
  · have := (List.getElem?_eq_some_iff.mp hi).1
    exact frM_ob h (by omega) (r2 i x hi)
  · rw [h 2 _ (by unfold tch; omega) (by omega) (by omega) (by omega)]
    exact (r3 k hk).1 hn
  · exact frM_ob h (by omega) ((r3 k hk).2 x hx)
  · have := (List.getElem?_eq_some_iff.mp hi).1
    exact frM_ob h (by omega) (r5 i x hi)
  · have := (List.getElem?_eq_some_iff.mp hi).1
    exact frM_ob h (by omega) (r7 i x hi)
  · have hi := (List.getElem?_eq_some_iff.mp hc).1
    have hcl := (g5 c (List.mem_of_getElem? hc)).2
    obtain ⟨c1, c2⟩ := r9 i c hc
    exact ⟨by rw [h 4 _ (by unfold tch; omega) (by omega) (by omega) (by omega)]; exact c1, frM_sg h c2 (by omega)⟩
theorem Rl_done {q q' : rS} {M : mS} {n p : Nat} {x : oB} (hg : gM M) (hR : Rl q M) (hn : n ≤ M.1.length) (hp : p = M.1.length - n) (hp2 : p < 12) (hx : rOb q' p x) (h0 : q' 6 0 = (p : Int) + 1) (h4 : q' 6 4 = q 6 4 + 1) (hf : ∀ a k, ¬ tch p a k → ¬ (a = 6 ∧ k = 0) → ¬ (a = 6 ∧ k = 4) → q' a k = q a k) (hl : lok q') : Rl q' (pu M n x) := by
  obtain ⟨g1, g2, g3, g4, g5, g6, g7, g8, g9, g10⟩ := hg
  obtain ⟨r1, r2, r3, r4, r5, r6, r7, r8, r9, r10, r11⟩ := hR
  have ob : ∀ (o : Nat) (y : oB), ¬ o = p → o < 28 → rOb q o y → rOb q' o y := fun o y h1 h2 hy => rOb_fr hy (fun a k ht => hf a k (by unfold tch at ht ⊢; omega) (by unfold tch at ht; omega) (by unfold tch at ht; omega))
  have hlen : (x :: M.1.drop n).length = p + 1 := by simp; omega
  refine ⟨by show q' 6 0 = ((x :: M.1.drop n).length : Int); rw [h0, hlen]; simp, fun i y hi => ?_, fun k hk => ⟨fun hn => ?_, fun y hy => ?_⟩, by show q' 6 1 = _; rw [hf 6 1 (by unfold tch; omega) (by omega) (by omega)]; exact r4, fun i y hi => ?_, by show q' 6 2 = _; rw [hf 6 2 (by unfold tch; omega) (by omega) (by omega)]; exact r6, fun i y hi => ?_, by show q' 6 3 = _; rw [hf 6 3 (by unfold tch; omega) (by omega) (by omega)]; exact r8, fun i c hc => ?_, by show q' 6 4 = ((M.2.2.2.2.2 + 1 : Nat) : Int); rw [h4, r10]; simp, hl⟩
  · have hi' : (x :: M.1.drop n)[i]? = some y := hi
    show rOb q' ((x :: M.1.drop n).length - 1 - i) y
    rw [hlen]
    cases i with
    | zero => simp at hi'; subst hi'; exact hx
    | succ i =>
      simp at hi'
      have hl2 := (List.getElem?_eq_some_iff.mp hi').1
      have := r2 (n + i) y hi'
      rw [show M.1.length - 1 - (n + i) = p + 1 - 1 - (i + 1) by omega] at this
      exact ob _ y (by omega) (by omega) this
  · have : q' 2 (12 + k) = q 2 (12 + k) := hf 2 _ (by unfold tch; omega) (by omega) (by omega)
    rw [this]
    exact (r3 k hk).1 hn
  · exact ob _ y (by omega) (by omega) ((r3 k hk).2 y hy)
  · have hil : i < M.2.2.1.length := (List.getElem?_eq_some_iff.mp hi).1
    exact ob _ y (by omega) (by omega) (r5 i y hi)
  · have hil : i < M.2.2.2.1.length := (List.getElem?_eq_some_iff.mp hi).1
    exact ob _ y (by omega) (by omega) (r7 i y hi)
  · have hil : i < M.2.2.2.2.1.length := (List.getElem?_eq_some_iff.mp hc).1
    have hcl := (g5 c (List.mem_of_getElem? hc)).2
    obtain ⟨c1, c2⟩ := r9 i c hc
    exact ⟨by rw [hf 4 _ (by unfold tch; omega) (by omega) (by omega)]; exact c1, sg_mono c2 (fun k k1 k2 => hf 0 k (by unfold tch; omega) (by omega) (by omega))⟩
theorem Rl_tp {q : rS} {M : mS} (hg : gM M) (hR : Rl q M) (i : Nat) : tp q (i : Int) = kd M i := by
  obtain ⟨r1, r2, -⟩ := hR
  unfold tp kd
  cases hx : M.1[i]? with
  | none =>
    have := List.getElem?_eq_none_iff.mp hx
    rw [if_neg (by omega)]
  | some x =>
    have hl := (List.getElem?_eq_some_iff.mp hx).1
    rw [if_pos (by omega)]
    have := (r2 i x hx).1
    show q 2 _ = x.1
    rw [← this]
    congr 1
    omega
theorem kd_ir {M : mS} (hg : gM M) (i : Nat) : ir (kd M i) ∧ -1 ≤ kd M i ∧ kd M i ≤ 2 := by
  by_cases h : kd M i = -1
  · rw [h]; unfold ir; omega
  · obtain ⟨x, hx, h1, -⟩ := kd_some h
    have := gO_k (gM_top hg hx)
    rw [h1]
    unfold ir
    omega
theorem Rl_row {q : rS} {M : mS} {i : Nat} {x : oB} (hR : Rl q M) (hx : M.1[i]? = some x) : q 1 (4 * (M.1.length - 1 - i)) = (x.2.1.length : Int) ∧ sg q (160 * (M.1.length - 1 - i)) x.2.1 ∧ x.2.1.length ≤ 40 := by
  have := (hR.2.1 i x hx).2.1
  exact this
