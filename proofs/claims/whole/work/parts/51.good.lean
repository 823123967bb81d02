/-! what is well made stays well made -/
theorem cm_neg : ∀ a b : List Int, cm a b = - cm b a := by
  intro a
  induction a with
  | nil => intro b; cases b <;> simp [cm]
  | cons x a ih =>
    intro b
    cases b with
    | nil => simp [cm]
    | cons y b =>
      unfold cm
      by_cases h : x = y
      · rw [if_pos h, if_pos h.symm]; exact ih b
      · have h' : ¬ y = x := fun e => h e.symm
        rw [if_neg h, if_neg h']
        by_cases h2 : x < y
        · have h3 : ¬ y < x := by omega
          rw [if_pos h2, if_neg h3]
        · have h3 : y < x := by omega
          rw [if_neg h2, if_pos h3]; rfl
theorem cm_tr : ∀ a b c : List Int, cm a b = -1 → cm b c = -1 → cm a c = -1 := by
  intro a
  induction a with
  | nil => intro b c h; simp [cm] at h
  | cons x a ih =>
    intro b c h1 h2
    cases b with
    | nil => simp [cm] at h1
    | cons y b =>
      cases c with
      | nil => simp [cm] at h2
      | cons z c =>
        unfold cm at h1 h2 ⊢
        by_cases e1 : x = y
        · rw [if_pos e1] at h1
          by_cases e2 : y = z
          · rw [if_pos e2] at h2
            rw [if_pos (e1.trans e2)]
            exact ih b c h1 h2
          · rw [if_neg e2] at h2
            rw [if_neg (by omega)]
            by_cases h3 : y < z
            · rw [if_pos (by omega)]
            · rw [if_neg h3] at h2; simp at h2
        · rw [if_neg e1] at h1
          by_cases h3 : x < y
          · by_cases e2 : y = z
            · rw [if_neg (by omega), if_pos (by omega)]
            · rw [if_neg e2] at h2
              by_cases h4 : y < z
              · rw [if_neg (by omega), if_pos (by omega)]
              · rw [if_neg h4] at h2; simp at h2
          · rw [if_neg h3] at h1; simp at h1
theorem srt_ins {l : List Int} : ∀ {hs : List (List Int)} {m : Nat}, srt hs → pos l hs = some m → srt (insA l hs m) := by
  intro hs
  induction hs with
  | nil => intro m _ h; simp [pos] at h; subst h; simp [insA, srt]
  | cons a hs ih =>
    intro m hs1 h
    obtain ⟨s1, s2⟩ := hs1
    unfold pos at h
    by_cases h0 : cm l a = 0
    · rw [if_pos h0] at h; simp at h
    · rw [if_neg h0] at h
      by_cases h1 : cm l a < 0
      · rw [if_pos h1] at h
        simp at h
        subst h
        have h2 : cm l a = -1 := by rcases cm_r l a with e | e | e <;> omega
        refine ⟨fun h' hm => ?_, s1, s2⟩
        rcases List.mem_cons.mp (by simpa using hm) with e | e
        · rw [e]; exact h2
        · exact cm_tr _ _ _ h2 (s1 h' e)
      · rw [if_neg h1] at h
        cases hp : pos l hs with
        | none => rw [hp] at h; simp at h
        | some k =>
          rw [hp] at h
          simp at h
          subst h
          have h2 : cm a l = -1 := by have := cm_neg a l; rcases cm_r l a with e | e | e <;> omega
          refine ⟨fun h' hm => ?_, ih s2 hp⟩
          have hm' : h' ∈ List.take k hs ++ l :: List.drop k hs := by simpa [insA] using hm
          rcases List.mem_append.mp hm' with e | e
          · exact s1 h' (List.mem_of_mem_take e)
          · rcases List.mem_cons.mp e with e | e
            · rw [e]; exact h2
            · exact s1 h' (List.mem_of_mem_drop e)
def gH (hs : List (List Int)) : Prop := hs.length ≤ 3 ∧ srt hs ∧ ∀ h ∈ hs, isTm [] h [1] ∧ h.length ≤ 40
theorem gH_0 : gH [] := ⟨by simp, trivial, by simp⟩
theorem gH_hin {l : List Int} {x : List (List Int) × Bool} (hl : isTm [] l [1]) (h : gH x.1) : gH (hin l x).1 := by
  unfold hin
  cases hp : pos l x.1 with
  | none => exact h
  | some m =>
    show gH (if x.1.length = 3 ∨ 40 < l.length then (x.1, true) else (insA l x.1 m, x.2)).1
    by_cases hc : x.1.length = 3 ∨ 40 < l.length
    · rw [if_pos hc]; exact h
    · rw [if_neg hc]
      obtain ⟨h1, h2, h3⟩ := h
      refine ⟨?_, srt_ins h2 hp, fun y hy => ?_⟩
      · show (insA l x.1 m).length ≤ 3
        have := pos_le hp
        simp [insA]
        omega
      · have hy' : y ∈ List.take m x.1 ++ l :: List.drop m x.1 := hy
        rcases List.mem_append.mp hy' with e | e
        · exact h3 y (List.mem_of_mem_take e)
        · rcases List.mem_cons.mp e with e | e
          · rw [e]; exact ⟨hl, by omega⟩
          · exact h3 y (List.mem_of_mem_drop e)
theorem gH_brg {bl : List Int} : ∀ {hs : List (List Int)} {x : List (List Int) × Bool}, (∀ h ∈ hs, isTm [] h [1]) → gH x.1 → gH (brg bl x hs).1 := by
  intro hs
  induction hs with
  | nil => intro x _ h; exact h
  | cons a hs ih =>
    intro x ha h
    refine ih (x := if a = bl then x else hin a x) (fun h hm => ha h (List.mem_cons_of_mem _ hm)) ?_
    split
    · exact h
    · exact gH_hin (ha a List.mem_cons_self) h
theorem gH_hfo {f : List Int → List Int} : ∀ {hs : List (List Int)} {x : List (List Int) × Bool}, (∀ h ∈ hs, isTm [] (f h) [1]) → gH x.1 → gH (hfo f x hs).1 := by
  intro hs
  induction hs with
  | nil => intro x _ h; exact h
  | cons a hs ih => intro x ha h; exact ih (x := hin (f a) x) (fun h hm => ha h (List.mem_cons_of_mem _ hm)) (gH_hin (ha a List.mem_cons_self) h)
theorem hfo_fl {f : List Int → List Int} : ∀ {hs : List (List Int)} {x : List (List Int) × Bool}, (hfo f x hs).2 = false → x.2 = false := by
  intro hs
  induction hs with
  | nil => intro x h; exact h
  | cons a hs ih => intro x h; exact hin_fl (ih (x := hin (f a) x) h)
theorem gO_mk {l : List Int} {hs : List (List Int)} (h1 : isTm [] l [1]) (h2 : l.length ≤ 40) (h3 : gH hs) : gO (2, l, hs) := Or.inr (Or.inr ⟨rfl, h1, h2, h3.1, h3.2.1, h3.2.2⟩)
theorem gO_tm {l a : List Int} (h1 : isTm [] l a) (h2 : l.length ≤ 40) : gO (1, l, []) := Or.inr (Or.inl ⟨rfl, ⟨a, h1⟩, h2, rfl⟩)
theorem gM_pu {M : mS} {n : Nat} {x : oB} (hg : gM M) (hx : gO x) (hn : M.1.length - n < 12) (h120 : ¬ M.2.2.2.2.2 = 120) : gM (pu M n x) := by
  obtain ⟨g1, g2, g3, g4, g5, g6, g7, g8, g9, g10⟩ := hg
  refine ⟨fun y hy => ?_, g2, g3, g4, g5, ?_, g7, g8, g9, by show M.2.2.2.2.2 + 1 ≤ 120; omega⟩
  · have hy' : y ∈ x :: M.1.drop n := hy
    rcases List.mem_cons.mp hy' with e | e
    · rw [e]; exact hx
    · exact g1 y (List.mem_of_mem_drop e)
  · show (x :: M.1.drop n).length ≤ 12
    simp; omega
theorem gM_fi {M : mS} {n : Nat} {x : oB} {b : Bool} (hg : gM M) (hx : b = false → gO x) (hn : M.1.length - n < 12) : gM (fi M n x b).2 := by
  unfold fi
  by_cases h : b = true ∨ M.2.2.2.2.2 = 120
  · rw [if_pos h]; exact hg
  · rw [if_neg h]
    rw [not_or] at h
    exact gM_pu hg (hx (by simpa using h.1)) hn h.2
theorem isTm_eqn {a l r : List Int} (ha : isTy a) (hl : isTm [] l a) (hr : isTm [] r a) : isTm [] (eqn a l r) [1] := by
  have h1 : isTm [] (11 :: 0 :: a) (0 :: (a ++ (0 :: (a ++ [1])))) := isTm_e ha
  have h2 := isTm_a ha (isTy_f ha isTy_b) h1 hl
  have h3 := isTm_a ha isTy_b h2 hr
  have e : eqn a l r = 12 :: ((12 :: ((11 :: 0 :: a) ++ l)) ++ r) := by simp [eqn]
  rw [e]
  exact h3
theorem gM_type {M : mS} {k : Int} (hg : gM M) : gM (st_type M k).2 := by
  have g6 := hg.2.2.2.2.2.1
  unfold st_type
  split
  · exact hg
  split
  · split
    · rename_i h1 h2 h3
      split
      · exact hg
      · rename_i h4
        refine gM_fi hg (fun _ => ?_) (by omega)
        obtain ⟨x0, hx0, ka, kb, kc⟩ := kd_some (M := M) (i := 0) (by rw [h3.1]; decide)
        obtain ⟨x1, hx1, ka1, kb1, kc1⟩ := kd_some (M := M) (i := 1) (by rw [h3.2]; decide)
        have t0 := (gO_0 (gM_top hg hx0) (ka.symm.trans h3.1)).1
        have t1 := (gO_0 (gM_top hg hx1) (ka1.symm.trans h3.2)).1
        rw [kb, kb1] at h4 ⊢
        exact Or.inl ⟨rfl, isTy_f t1 t0, by show (0 :: (x1.2.1 ++ x0.2.1)).length ≤ 15; omega, rfl⟩
    · exact hg
  · rename_i h1 h2
    split
    · exact hg
    · rename_i h3
      refine gM_fi hg (fun _ => Or.inl ⟨rfl, ?_, by simp, rfl⟩) (by omega)
      show isTy [k + 2]
      by_cases hk : k = -1
      · subst hk; exact isTy_b
      · exact isTy_v (by omega) (by omega)
theorem gM_leaf {M : mS} {h n : Int} (hg : gM M) (hk : kd M 0 = 0) (hh : (h = 10 ∧ 0 ≤ n ∧ n ≤ 7) ∨ (h = 11 ∧ n = 0)) : gM (st_leaf M h n).2 := by
  have g6 := hg.2.2.2.2.2.1
  obtain ⟨x0, hx0, ka, kb, kc⟩ := kd_some (M := M) (i := 0) (by rw [hk]; decide)
  have hl := (List.getElem?_eq_some_iff.mp hx0).1
  have t0 := (gO_0 (gM_top hg hx0) (ka.symm.trans hk)).1
  unfold st_leaf
  rw [kb]
  refine gM_fi hg (fun hb => ?_) (by omega)
  simp only [decide_eq_false_iff_not] at hb
  rcases hh with ⟨e, e1, e2⟩ | ⟨e, e1⟩
  · subst e; exact gO_tm (isTm_v e1 e2 t0) (by omega)
  · subst e; subst e1; exact gO_tm (isTm_e t0) (by omega)
theorem gM_var {M : mS} {n : Int} (hg : gM M) : gM (st_var M n).2 := by
  unfold st_var
  split
  · exact hg
  · rename_i h1
    split
    · exact hg
    · exact gM_leaf hg (by omega) (Or.inl ⟨rfl, by omega, by omega⟩)
theorem gM_const {M : mS} {c : Int} (hg : gM M) : gM (st_const M c).2 := by
  have g6 := hg.2.2.2.2.2.1
  have g9 := hg.2.2.2.2.2.2.2.2.1
  unfold st_const
  split
  · split
    · exact hg
    · exact gM_leaf hg (by omega) (Or.inr ⟨rfl, rfl⟩)
  · split
    · exact hg
    · split
      · exact hg
      · refine gM_fi hg (fun hb => ?_) (by omega)
        simp only [decide_eq_false_iff_not] at hb
        have hi : c.toNat - 1 < M.2.2.2.2.1.length := by omega
        have hm : cT M c ∈ M.2.2.2.2.1 := by
          unfold cT
          rw [List.getD_eq_getElem?_getD, List.getElem?_eq_getElem hi]
          exact List.getElem_mem hi
        exact gO_tm (isTm_c (by omega) (by omega) (hg.2.2.2.2.1 _ hm).1) (by omega)
theorem gM_app {M : mS} (hg : gM M) : gM (st_app M).2 := by
  have g6 := hg.2.2.2.2.2.1
  unfold st_app
  split
  · rename_i hk
    obtain ⟨x0, hx0, ka, kb, kc⟩ := kd_some (M := M) (i := 0) (by rw [hk.1]; decide)
    obtain ⟨x1, hx1, ka1, kb1, kc1⟩ := kd_some (M := M) (i := 1) (by rw [hk.2]; decide)
    have hl1 := (List.getElem?_eq_some_iff.mp hx1).1
    obtain ⟨⟨a0, t0⟩, -, -⟩ := gO_1 (gM_top hg hx0) (ka.symm.trans hk.1)
    obtain ⟨⟨a1, t1⟩, -, -⟩ := gO_1 (gM_top hg hx1) (ka1.symm.trans hk.2)
    rw [kb, kb1, tyO_of t0, tyO_of t1]
    by_cases h : ∃ d, a1 = 0 :: (a0 ++ d)
    · rw [ifc_t h]
      obtain ⟨d, e⟩ := h
      refine gM_fi hg (fun hb => ?_) (by omega)
      simp only [decide_eq_false_iff_not] at hb
      have td : isTy d := by
        rcases isTy_inv (isTm_ty t1) with e2 | ⟨k, _, _, e2⟩ | ⟨c', d', u1, u2, e2⟩
        · rw [e2] at e; simp at e
        · rw [e2] at e; simp at e; omega
        · rw [e2] at e
          obtain ⟨e3, e4⟩ := isTy_fi u1 (isTm_ty t0) e
          rw [← e4]; exact u2
      rw [e] at t1
      exact gO_tm (isTm_a (isTm_ty t0) td t1 t0) (by omega)
    · rw [ifc_f h]; exact hg
  · exact hg
theorem gM_abs {M : mS} (hg : gM M) : gM (st_abs M).2 := by
  have g6 := hg.2.2.2.2.2.1
  unfold st_abs
  by_cases h : vb M 1 ∧ kd M 0 = 1
  · rw [ifc_t h]
    obtain ⟨hv, hk⟩ := h
    obtain ⟨x0, hx0, ka, kb, kc⟩ := kd_some (M := M) (i := 0) (by rw [hk]; decide)
    obtain ⟨x1, hx1, ka1, kb1, kc1⟩ := kd_some (M := M) (i := 1) (by rw [hv.1]; decide)
    have hl1 := (List.getElem?_eq_some_iff.mp hx1).1
    obtain ⟨⟨a0, t0⟩, -, -⟩ := gO_1 (gM_top hg hx0) (ka.symm.trans hk)
    obtain ⟨n, c, e, tc, n0, n7⟩ := vb_of hg hx1 hv
    rw [kb, kb1, e]
    refine gM_fi hg (fun hb => ?_) (by omega)
    simp only [decide_eq_false_iff_not] at hb
    exact gO_tm (isTm_l tc (isTm_ty t0) (abs_ok (n := n) (by omega) tc t0).1) (by show (13 :: ((vw n c).drop 2 ++ absC (vw n c) x0.2.1 ([], 1) 0)).length ≤ 40; omega)
  · rw [ifc_f h]; exact hg
theorem isTm_be {t c u x a : List Int} (h : isTm [] t a) (hb : bx t c u x) : isTm [] (betC x u ([], 1)) a := by
  obtain ⟨e, tc, ⟨b, tu⟩, tx⟩ := hb
  have h2 := (bet_ok tx tu).1
  have h3 : isTm [] t b := by
    rw [e]
    have := isTm_a tc (isTm_ty tu) (isTm_l tc (isTm_ty tu) tu) tx
    simpa using this
  rw [isTm_uni h _ h3]
  exact h2
theorem gM_theorem {M : mS} {r : Int} (hg : gM M) : gM (st_theorem M r).2 := by
  have g6 := hg.2.2.2.2.2.1
  have g7 := hg.2.2.2.2.2.2.1
  have g8 := hg.2.2.2.2.2.2.2.1
  have g9 := hg.2.2.2.2.2.2.2.2.1
  have g10 := hg.2.2.2.2.2.2.2.2.2
  unfold st_theorem
  split
  · exact hg
  rename_i hk'
  have hk : kd M 0 = 1 := by omega
  obtain ⟨x0, hx0, ka, kb, kc⟩ := kd_some (M := M) (i := 0) (by rw [hk]; decide)
  have hl0 := (List.getElem?_eq_some_iff.mp hx0).1
  obtain ⟨⟨a, t0⟩, l0, -⟩ := gO_1 (gM_top hg hx0) (ka.symm.trans hk)
  have ta := isTm_ty t0
  split
  · unfold st_refl
    rw [kb, tyO_of t0]
    refine gM_fi hg (fun hb => ?_) (by omega)
    simp only [decide_eq_false_iff_not] at hb
    exact gO_mk (isTm_eqn ta t0 t0) (by omega) gH_0
  split
  · unfold st_assume
    rw [kb, tyO_of t0]
    by_cases h : a = [1]
    · rw [ifc_t h]
      rw [h] at t0
      exact gM_fi hg (fun hb => gO_mk t0 l0 ⟨by simp, ⟨by simp, trivial⟩, fun y hy => by rw [List.mem_singleton] at hy; rw [hy]; exact ⟨t0, l0⟩⟩) (by omega)
    · rw [ifc_f h]; exact hg
  split
  · unfold st_beta
    rw [kb, tyO_of t0]
    by_cases h : ∃ r, x0.2.1 = 12 :: 13 :: r
    · rw [ifc_t h]
      obtain ⟨r, e⟩ := h
      obtain ⟨c, u, x, hb⟩ := bx_of t0 e
      rw [bx_eps hb]
      refine gM_fi hg (fun hb2 => ?_) (by omega)
      simp only [decide_eq_false_iff_not] at hb2
      exact gO_mk (isTm_eqn ta t0 (isTm_be t0 hb)) (by omega) gH_0
    · rw [ifc_f h]; exact hg
  split
  · unfold st_axiom
    rw [kb, tyO_of t0]
    by_cases h : a = [1]
    · rw [ifc_t h]
      rw [h] at t0
      split
      · exact hg
      · rename_i h9
        have gx : gO (2, x0.2.1, []) := gO_mk t0 l0 gH_0
        obtain ⟨g1, g2, g3, g4, g5, -⟩ := hg
        refine ⟨fun y hy => ?_, g2, fun y hy => ?_, g4, g5, ?_, ?_, g8, g9, ?_⟩
        · rcases List.mem_cons.mp hy with e | e
          · rw [e]; exact gx
          · exact g1 y (List.mem_of_mem_drop e)
        · rcases List.mem_append.mp hy with e | e
          · exact g3 y e
          · rw [List.mem_singleton] at e; rw [e]; exact gx
        · show ((2, x0.2.1, []) :: M.1.drop 1).length ≤ 12; simp; omega
        · show (M.2.2.1 ++ [(2, x0.2.1, [])]).length ≤ 5; simp; omega
        · show M.2.2.2.2.2 + 1 ≤ 120; omega
    · rw [ifc_f h]; exact hg
  split
  · unfold st_define
    have hdf : dfl M = eqn a (11 :: ((M.2.2.2.2.1.length : Int) + 1) :: a) x0.2.1 := by rw [dfl, kb, tyO_of t0]
    rw [kb, tyO_of t0]
    by_cases h : clC a x0.2.1
    · rw [ifc_t h]
      split
      · exact hg
      · rename_i h9
        have hl9 : (dfl M).length = 4 + a.length + (a.length + 2) + x0.2.1.length := by rw [hdf, eqn_len]; simp
        have gx : gO (2, dfl M, []) := gO_mk (by rw [hdf]; exact isTm_eqn ta (isTm_c (by omega) (by omega) ta) t0) (by omega) gH_0
        obtain ⟨g1, g2, g3, g4, g5, -⟩ := hg
        refine ⟨fun y hy => ?_, g2, g3, g4, fun y hy => ?_, ?_, g7, g8, ?_, ?_⟩
        · rcases List.mem_cons.mp hy with e | e
          · rw [e]; exact gx
          · exact g1 y (List.mem_of_mem_drop e)
        · rcases List.mem_append.mp hy with e | e
          · exact g5 y e
          · rw [List.mem_singleton] at e; rw [e]; exact ⟨ta, by omega⟩
        · show ((2, dfl M, []) :: M.1.drop 1).length ≤ 12; simp; omega
        · show (M.2.2.2.2.1 ++ [a]).length ≤ 6; simp; omega
        · show M.2.2.2.2.2 + 1 ≤ 120; omega
    · rw [ifc_f h]; exact hg
  · exact hg
theorem gM_join {M : mS} {c : Int} (hg : gM M) : gM (st_join M c).2 := by
  have g6 := hg.2.2.2.2.2.1
  unfold st_join
  split
  · exact hg
  rename_i hk'
  have hk : kd M 0 = 2 ∧ kd M 1 = 2 := Classical.byContradiction hk'
  obtain ⟨x0, hx0, ka0, kb0, kc0⟩ := kd_some (M := M) (i := 0) (by rw [hk.1]; decide)
  obtain ⟨x1, hx1, ka1, kb1, kc1⟩ := kd_some (M := M) (i := 1) (by rw [hk.2]; decide)
  have hl1 := (List.getElem?_eq_some_iff.mp hx1).1
  obtain ⟨ht0, hl0, hn0, hs0, hh0⟩ := gO_2 (gM_top hg hx0) (ka0.symm.trans hk.1)
  obtain ⟨ht1, hl1', hn1, hs1, hh1⟩ := gO_2 (gM_top hg hx1) (ka1.symm.trans hk.2)
  split
  · unfold st_eqmp
    rw [kb0, kb1, kc0, kc1]
    by_cases h : isE x1.2.1 ∧ (eqx x1.2.1).2.1 = x0.2.1
    · rw [ifc_t h]
      obtain ⟨h1, h2⟩ := h
      obtain ⟨-, a, l, r, hq⟩ := eqP_of ht1 h1
      rw [eqx_of hq] at h2 ⊢
      obtain ⟨e, ta, tl, tr⟩ := hq
      have h2' : l = x0.2.1 := h2
      rw [h2'] at tl
      have e1 : a = [1] := isTm_uni tl _ ht0
      rw [e1] at tr
      refine gM_fi hg (fun hb => ?_) (by omega)
      have h3 := brg_fl (brg_fl hb)
      simp only [decide_eq_false_iff_not] at h3
      exact gO_mk tr (by show r.length ≤ 40; omega) (gH_brg (fun h hm => (hh0 h hm).1) (gH_brg (fun h hm => (hh1 h hm).1) gH_0))
    · rw [ifc_f h]; exact hg
  split
  · unfold st_cong
    rw [kb0, kb1, kc0, kc1]
    by_cases h : isE x1.2.1 ∧ isE x0.2.1 ∧ ∃ d, (eqx x1.2.1).1 = 0 :: ((eqx x0.2.1).1 ++ d)
    · rw [ifc_t h]
      obtain ⟨h1, h2, d, h3⟩ := h
      obtain ⟨-, a1, l1, r1, hq1⟩ := eqP_of ht1 h1
      obtain ⟨-, a0, l0, r0, hq0⟩ := eqP_of ht0 h2
      rw [eqx_of hq1, eqx_of hq0] at h3 ⊢
      obtain ⟨e1, ta1, tl1, tr1⟩ := hq1
      obtain ⟨e0, ta0, tl0, tr0⟩ := hq0
      have h3' : a1 = 0 :: (a0 ++ d) := h3
      have td : isTy d := by
        rcases isTy_inv ta1 with e2 | ⟨k, _, _, e2⟩ | ⟨c', d', u1, u2, e2⟩
        · rw [e2] at h3'; simp at h3'
        · rw [e2] at h3'; simp at h3'; omega
        · rw [e2] at h3'
          obtain ⟨e3, e4⟩ := isTy_fi u1 ta0 h3'
          rw [← e4]; exact u2
      have hdr : (a1, l1, r1).1.drop (1 + (a0, l0, r0).1.length) = d := by show a1.drop (1 + a0.length) = d; rw [h3']; simp [Nat.add_comm 1]
      rw [hdr]
      rw [h3'] at tl1 tr1
      refine gM_fi hg (fun hb => ?_) (by omega)
      have h4 := brg_fl (brg_fl hb)
      simp only [decide_eq_false_iff_not] at h4
      exact gO_mk (isTm_eqn td (isTm_a ta0 td tl1 tl0) (isTm_a ta0 td tr1 tr0)) (by omega) (gH_brg (fun h hm => (hh0 h hm).1) (gH_brg (fun h hm => (hh1 h hm).1) gH_0))
    · rw [ifc_f h]; exact hg
  split
  · unfold st_ded
    rw [kb0, kb1, kc0, kc1]
    refine gM_fi hg (fun hb => ?_) (by omega)
    simp only [Bool.or_eq_false_iff, decide_eq_false_iff_not] at hb
    exact gO_mk (isTm_eqn isTy_b ht1 ht0) (by omega) (gH_brg (fun h hm => (hh0 h hm).1) (gH_brg (fun h hm => (hh1 h hm).1) gH_0))
  · exact hg
theorem gM_absT {M : mS} (hg : gM M) : gM (st_absT M).2 := by
  have g6 := hg.2.2.2.2.2.1
  unfold st_absT
  by_cases h : vb M 1 ∧ kd M 0 = 2
  · rw [ifc_t h]
    obtain ⟨hv, hk⟩ := h
    obtain ⟨x0, hx0, ka, kb, kc⟩ := kd_some (M := M) (i := 0) (by rw [hk]; decide)
    obtain ⟨x1, hx1, ka1, kb1, kc1⟩ := kd_some (M := M) (i := 1) (by rw [hv.1]; decide)
    have hl1 := (List.getElem?_eq_some_iff.mp hx1).1
    obtain ⟨ht0, hl0, hn0, hs0, hh0⟩ := gO_2 (gM_top hg hx0) (ka.symm.trans hk)
    obtain ⟨n, c, e, tc, n0, n7⟩ := vb_of hg hx1 hv
    rw [kb, kb1, kc, e]
    by_cases h1 : isE x0.2.1
    · rw [ifc_t h1]
      obtain ⟨-, a0, l0, r0, hq0⟩ := eqP_of ht0 h1
      rw [eqx_of hq0]
      obtain ⟨e0, ta0, tl0, tr0⟩ := hq0
      by_cases h2 : ∃ h ∈ x0.2.2, frC (vw n c) h
      · rw [ifc_t h2]; exact hg
      · rw [ifc_f h2]
        refine gM_fi hg (fun hb => ?_) (by omega)
        have h4 := brg_fl hb
        simp only [decide_eq_false_iff_not] at h4
        exact gO_mk (isTm_eqn (isTy_f tc ta0) (isTm_l tc ta0 (abs_ok (n := n) (by omega) tc tl0).1) (isTm_l tc ta0 (abs_ok (n := n) (by omega) tc tr0).1)) (by omega) (gH_brg (fun h hm => (hh0 h hm).1) gH_0)
    · rw [ifc_f h1]; exact hg
  · rw [ifc_f h]; exact hg
theorem gM_inst {M : mS} (hg : gM M) : gM (st_inst M).2 := by
  have g6 := hg.2.2.2.2.2.1
  unfold st_inst
  by_cases h : vb M 2 ∧ kd M 1 = 1 ∧ kd M 0 = 2
  · rw [ifc_t h]
    obtain ⟨hv, hk1, hk⟩ := h
    obtain ⟨x0, hx0, ka, kb, kc⟩ := kd_some (M := M) (i := 0) (by rw [hk]; decide)
    obtain ⟨x1, hx1, ka1, kb1, kc1⟩ := kd_some (M := M) (i := 1) (by rw [hk1]; decide)
    obtain ⟨x2, hx2, ka2, kb2, kc2⟩ := kd_some (M := M) (i := 2) (by rw [hv.1]; decide)
    have hl2 := (List.getElem?_eq_some_iff.mp hx2).1
    obtain ⟨ht0, hl0, hn0, hs0, hh0⟩ := gO_2 (gM_top hg hx0) (ka.symm.trans hk)
    obtain ⟨⟨a1, t1⟩, -, -⟩ := gO_1 (gM_top hg hx1) (ka1.symm.trans hk1)
    obtain ⟨n, c, e, tc, n0, n7⟩ := vb_of hg hx2 hv
    rw [kb, kb1, kb2, kc, e, tyO_of t1]
    by_cases h1 : (vw n c).drop 2 = a1
    · rw [ifc_t h1]
      have h1' : c = a1 := h1
      rw [← h1'] at t1
      refine gM_fi hg (fun hb => ?_) (by omega)
      have h4 := hfo_fl hb
      simp only [decide_eq_false_iff_not] at h4
      exact gO_mk (rpl_ok (by omega) tc t1 ht0) (by omega) (gH_hfo (fun h hm => rpl_ok (by omega) tc t1 (hh0 h hm).1) gH_0)
    · rw [ifc_f h1]; exact hg
  · rw [ifc_f h]; exact hg
theorem gM_instT {M : mS} {c : Int} (hg : gM M) : gM (st_instT M c).2 := by
  have g6 := hg.2.2.2.2.2.1
  unfold st_instT
  split
  · exact hg
  rename_i hk'
  have hk : kd M 1 = 0 ∧ kd M 0 = 2 := Classical.byContradiction hk'
  split
  · exact hg
  obtain ⟨x0, hx0, ka, kb, kc⟩ := kd_some (M := M) (i := 0) (by rw [hk.2]; decide)
  obtain ⟨x1, hx1, ka1, kb1, kc1⟩ := kd_some (M := M) (i := 1) (by rw [hk.1]; decide)
  have hl1 := (List.getElem?_eq_some_iff.mp hx1).1
  obtain ⟨ht0, hl0, hn0, hs0, hh0⟩ := gO_2 (gM_top hg hx0) (ka.symm.trans hk.2)
  obtain ⟨t1, -, -⟩ := gO_0 (gM_top hg hx1) (ka1.symm.trans hk.1)
  have hb1 : tsb c x1.2.1 [1] = [1] := by
    have : ¬ (1 : Int) = 2 + c := by omega
    simp [tsb, this]
  rw [kb, kb1, kc]
  refine gM_fi hg (fun hb => ?_) (by omega)
  have h4 := hfo_fl hb
  simp only [decide_eq_false_iff_not] at h4
  exact gO_mk (by have := rt_ok (k := c) (by omega) t1 ht0 0; rw [hb1] at this; exact this) (by omega) (gH_hfo (fun h hm => by have := rt_ok (k := c) (by omega) t1 (hh0 h hm).1 0; rw [hb1] at this; exact this) gH_0)
theorem gM_keep {M : mS} {k : Int} (hg : gM M) : gM (st_keep M k).2 := by
  have g10 := hg.2.2.2.2.2.2.2.2.2
  unfold st_keep
  split
  · exact hg
  split
  · exact hg
  split
  · exact hg
  rename_i h1 h2 h3
  obtain ⟨g1, g2, g3, g4, g5, g6, g7, g8, g9, -⟩ := hg
  refine ⟨g1, fun j x hx => ?_, g3, g4, g5, g6, g7, g8, g9, by show M.2.2.2.2.2 + 1 ≤ 120; omega⟩
  have hx' : dup1 M.2.1 k.toNat (M.1.headD (0, [], [])) j = some x := hx
  unfold dup1 at hx'
  split at hx'
  · have e : M.1.headD (0, [], []) = x := by simpa using hx'
    rw [← e]
    cases hM : M.1 with
    | nil => rw [hM] at h1; simp at h1
    | cons y l => exact g1 y (by rw [hM]; exact List.mem_cons_self)
  · exact g2 j x hx'
theorem gM_fetch {M : mS} {k : Int} (hg : gM M) : gM (st_fetch M k).2 := by
  have g6 := hg.2.2.2.2.2.1
  unfold st_fetch
  split
  · exact hg
  cases hx : M.2.1 k.toNat with
  | none => exact hg
  | some x =>
    show gM (if M.1.length = 12 ∨ M.2.2.2.2.2 = 120 then (4, M) else (0, pu M 0 x)).2
    by_cases h : M.1.length = 12 ∨ M.2.2.2.2.2 = 120
    · rw [if_pos h]; exact hg
    · rw [if_neg h]; exact gM_pu hg (hg.2.1 _ x hx) (by omega) (by omega)
theorem gM_pop {M : mS} (hg : gM M) : gM (st_pop M).2 := by
  have g10 := hg.2.2.2.2.2.2.2.2.2
  unfold st_pop
  split
  · exact hg
  split
  · exact hg
  obtain ⟨g1, g2, g3, g4, g5, g6, g7, g8, g9, -⟩ := hg
  exact ⟨fun y hy => g1 y (List.mem_of_mem_drop hy), g2, g3, g4, g5, by show (M.1.drop 1).length ≤ 12; simp; omega, g7, g8, g9, by show M.2.2.2.2.2 + 1 ≤ 120; omega⟩
theorem gM_export {M : mS} (hg : gM M) : gM (st_export M).2 := by
  have g10 := hg.2.2.2.2.2.2.2.2.2
  unfold st_export
  split
  · exact hg
  rename_i hk'
  have hk : kd M 0 = 2 := by omega
  split
  · exact hg
  obtain ⟨x0, hx0, ka, kb, kc⟩ := kd_some (M := M) (i := 0) (by rw [hk]; decide)
  have gx := gM_top hg hx0
  obtain ⟨g1, g2, g3, g4, g5, g6, g7, g8, g9, -⟩ := hg
  refine ⟨fun y hy => g1 y (List.mem_of_mem_drop hy), g2, g3, fun y hy => ?_, g5, by show (M.1.drop 1).length ≤ 12; simp; omega, g7, ?_, g9, by show M.2.2.2.2.2 + 1 ≤ 120; omega⟩
  · rcases List.mem_append.mp hy with e | e
    · exact g4 y e
    · rw [List.mem_singleton] at e; rw [e, hd_top hx0]; exact gx
  · show (M.2.2.2.1 ++ [_]).length ≤ 5; simp; omega
