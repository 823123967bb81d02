/-! depth -/
theorem set_kp {h : xH} {a i : Nat} {c d e : xC} {n : Nat} (hi : h.1[i]? = some c) (ha : h.1[a]? = some d) (hne : ¬ c = d) : (h.1.set a e, n).1[i]? = some c := by
  show (h.1.set a e)[i]? = some c
  rw [List.getElem?_set_ne (fun x => hne (by rw [x] at ha; exact Option.some.inj (hi.symm.trans ha)))]
  exact hi
def scD (h : xH) (q : List Int × Int) (B : Nat) : Prop := ∃ dr : List Int, dr.length = 40 ∧ h.1[3]? = some (.inr (.inr (0, [.inr (some 4), .inl (q.1.length : Int), .inl q.2]))) ∧ h.1[4]? = some (.inl dr) ∧ (∀ (i : Nat) (x : Int), q.1.reverse[i]? = some x → dr[i]? = some x) ∧ (-(B : Int) ≤ q.2 ∧ q.2 ≤ (B : Int)) ∧ ∀ x ∈ q.1, -(B : Int) ≤ x ∧ x ≤ (B : Int)
theorem scD_gr {P : Nat → Prop} {C S B : Nat} {h hf : xH} {q : List Int × Int} (hd : scD h q B) (hg : gr P C S h hf) (h3 : ¬ P 3) (h4 : ¬ P 4) : scD hf q B := by
  obtain ⟨dr, a1, a2, a3, a4⟩ := hd
  exact ⟨dr, a1, hg.2 3 _ h3 a2, hg.2 4 _ h4 a3, a4⟩
set_option maxHeartbeats 4000000 in
set_option maxRecDepth 100000 in
theorem de_begin {h : xH} {q : List Int × Int} {B : Nat} (hd : scD h q B) : x_Mx mm_De_begin [.inr (some 3)] h (fun r hf => r = none ∧ scD hf ([], 1) 1 ∧ gr (fun i => i = 3 ∨ i = 4) 0 0 h hf) := by
  refine xmx rfl (nl rfl) ?_
  obtain ⟨dr, d1, c3, c4, d4, d5, d6⟩ := hd
  show x_X _ 0 [some (.inr (some 3))] [] _ _
  refine xx (xs_aload_n dm_De_begin_0 rfl) ?_
  refine xx (xs_iconst dm_De_begin_1) ?_
  refine xx (xs_putf dm_De_begin_2 lp_De_15 c3 (nl rfl) (x_ft_i _)) ?_
  obtain ⟨h1, hh1⟩ : ∃ x : xH, x = (h.1.set 3 (.inr (.inr (0, [.inr (some 4), .inl 0, .inl q.2]))), h.2) := ⟨_, rfl⟩
  show x_X _ 5 [some (.inr (some 3))] [] (h.1.set 3 (.inr (.inr (0, [.inr (some 4), .inl 0, .inl q.2]))), h.2) _
  rw [← hh1]
  have c4 : h1.1[4]? = some (.inl (dr)) := by rw [hh1]; exact set_kp c4 c3 (by simp)
  have c3_o := c3
  have c3 : h1.1[3]? = some (.inr (.inr (0, [.inr (some 4), .inl 0, .inl q.2]))) := by rw [hh1]; exact set_at c3_o
  refine xx (xs_aload_n dm_De_begin_5 rfl) ?_
  refine xx (xs_iconst dm_De_begin_6) ?_
  refine xx (xs_putf dm_De_begin_7 lp_De_19 c3 (nl rfl) (x_ft_i _)) ?_
  obtain ⟨h2, hh2⟩ : ∃ x : xH, x = (h1.1.set 3 (.inr (.inr (0, [.inr (some 4), .inl 0, .inl 1]))), h1.2) := ⟨_, rfl⟩
  show x_X _ 10 [some (.inr (some 3))] [] (h1.1.set 3 (.inr (.inr (0, [.inr (some 4), .inl 0, .inl 1]))), h1.2) _
  rw [← hh2]
  have c4 : h2.1[4]? = some (.inl (dr)) := by rw [hh2]; exact set_kp c4 c3 (by simp)
  have c3_o := c3
  have c3 : h2.1[3]? = some (.inr (.inr (0, [.inr (some 4), .inl 0, .inl 1]))) := by rw [hh2]; exact set_at c3_o
  exact ⟨_, _, xb_v dm_De_begin_10 rfl, rfl, ⟨dr, d1, c3, c4, by simp, by simp, by simp⟩, gr_tr (gr_w (hh1 ▸ gr_set) (fun i _ e => Or.inl e) (Nat.le_refl _) (Nat.le_refl _)) (hh2 ▸ gr_set (h := h1)) (fun i _ e => Or.inl e) (Nat.le_refl _) (Nat.le_refl _)⟩
set_option maxHeartbeats 4000000 in
set_option maxRecDepth 100000 in
theorem de_pass_l {s m : Int} {dr : List Int} {B : Nat} {Q : Option xV → xH → Prop} (hB : B ≤ 100000) (d1 : dr.length = 40) (hm : -(B : Int) ≤ m ∧ m ≤ (B : Int)) : ∀ (R : List Int) (h : xH), h.1[3]? = some (.inr (.inr (0, [.inr (some 4), .inl (R.length : Int), .inl m]))) → h.1[4]? = some (.inl dr) → (∀ (i : Nat) (x : Int), R.reverse[i]? = some x → dr[i]? = some x) → (∀ x ∈ R, -(B : Int) ≤ x ∧ x ≤ (B : Int)) → R.length ≤ 40 → (∀ h' : xH, h'.1[3]? = some (.inr (.inr (0, [.inr (some 4), .inl ((dpP R m).length : Int), .inl m]))) → h'.1[4]? = some (.inl dr) → (∀ (i : Nat) (x : Int), (dpP R m).reverse[i]? = some x → dr[i]? = some x) → (∀ x ∈ dpP R m, -(B : Int) ≤ x ∧ x ≤ (B : Int)) → gr (fun i => i = 3 ∨ i = 4) 0 0 h h' → x_X mm_De_pass 45 [some (.inr (some 3)), some (.inl s)] [] h' Q) → x_X mm_De_pass 7 [some (.inr (some 3)), some (.inl s)] [] h Q := by
  intro R
  induction R with
  | nil =>
    intro h c3 c4 d4 d6 hl kk
    refine xx (xs_aload_n dm_De_pass_7 rfl) ?_
    refine xx (xs_getf dm_De_pass_8 lf_De_15 c3 rfl) ?_
    refine xx (xs_if_le_t (tgt := 45) dm_De_pass_11 rfl (by unfold ir; simp) (by simp)) ?_
    exact kk h c3 c4 d4 d6 (gr_rf _ _)
  | cons r R ih =>
    intro h c3 c4 d4 d6 hl kk
    have hr := d6 r List.mem_cons_self
    have hdr : dr[R.length]? = some r := d4 R.length r (by simp)
    simp only [List.length_cons] at c3 hl
    refine xx (xs_aload_n dm_De_pass_7 rfl) ?_
    refine xx (xs_getf dm_De_pass_8 lf_De_15 c3 rfl) ?_
    refine xx (xs_if_le_f (tgt := 45) dm_De_pass_11 rfl (by unfold ir; omega) (by omega)) ?_
    refine xx (xs_aload_n dm_De_pass_14 rfl) ?_
    refine xx (xs_getf dm_De_pass_15 lf_De_9 c3 rfl) ?_
    refine xx (xs_aload_n dm_De_pass_18 rfl) ?_
    refine xx (xs_getf dm_De_pass_19 lf_De_15 c3 rfl) ?_
    refine xx (xs_iconst dm_De_pass_22) ?_
    refine xx (xs_isub dm_De_pass_23) ?_
    refine xx (xs_iald (x := r) dm_De_pass_24 c4 (by omega) (by rw [show (((R.length + 1 : Nat) : Int) - 1).toNat = R.length by omega]; exact hdr) (by omega)) ?_
    refine xx (xs_aload_n dm_De_pass_25 rfl) ?_
    refine xx (xs_getf dm_De_pass_26 lf_De_19 c3 rfl) ?_
    refine xx_icmp_lt (tgt := 45) dm_De_pass_29 rfl (by unfold ir; omega) (by unfold ir; omega) (fun hc => ?_) (fun hc => ?_)
    · change x_X _ 45 _ _ _ _
      have e : dpP (r :: R) m = r :: R := by unfold dpP; rw [List.dropWhile_cons, if_neg (by simp; omega)]
      rw [e] at kk
      exact kk h (by simpa using c3) c4 d4 d6 (gr_rf _ _)
    · change x_X _ 32 _ _ _ _
      have e : dpP (r :: R) m = dpP R m := by unfold dpP; rw [List.dropWhile_cons, if_pos (by simp; omega)]
      rw [e] at kk
      refine xx (xs_aload_n dm_De_pass_32 rfl) ?_
      refine xx (xs_dup dm_De_pass_33) ?_
      refine xx (xs_getf dm_De_pass_34 lf_De_15 c3 rfl) ?_
      refine xx (xs_iconst dm_De_pass_37) ?_
      refine xx (xs_isub dm_De_pass_38) ?_
      refine xx (xs_putf dm_De_pass_39 lp_De_15 c3 (nl rfl) (x_ft_i _)) ?_
      obtain ⟨h1, hh1⟩ : ∃ x : xH, x = (h.1.set 3 (.inr (.inr (0, [.inr (some 4), .inl (((R.length + 1 : Nat) : Int) - 1), .inl m]))), h.2) := ⟨_, rfl⟩
      show x_X _ 42 [some (.inr (some 3)), some (.inl s)] [] (h.1.set 3 (.inr (.inr (0, [.inr (some 4), .inl (((R.length + 1 : Nat) : Int) - 1), .inl m]))), h.2) _
      rw [← hh1]
      have c4 : h1.1[4]? = some (.inl (dr)) := by rw [hh1]; exact set_kp c4 c3 (by simp)
      have c3_o := c3
      have c3 : h1.1[3]? = some (.inr (.inr (0, [.inr (some 4), .inl (((R.length + 1 : Nat) : Int) - 1), .inl m]))) := by rw [hh1]; exact set_at c3_o
      refine xx (xs_goto (tgt := 7) dm_De_pass_42 rfl) ?_
      refine ih h1 (by rw [c3]; congr 5; simp) c4 (fun i x hx => d4 i x ?_) (fun x hx => d6 x (List.mem_cons_of_mem _ hx)) (by omega) (fun h' k1 k2 k3 k4 k5 => kk h' k1 k2 k3 k4 (gr_tr (gr_w (hh1 ▸ gr_set) (fun i _ e => Or.inl e) (Nat.le_refl _) (Nat.le_refl _)) k5 (fun i _ e => e) (Nat.le_refl _) (Nat.le_refl _)))
      have hxl := (List.getElem?_eq_some_iff.mp hx).1
      rw [List.reverse_cons, List.getElem?_append_left hxl]
      exact hx
set_option maxHeartbeats 4000000 in
set_option maxRecDepth 100000 in
theorem de_pass {h : xH} {q : List Int × Int} {B : Nat} {s : Int} (hd : scD h q B) (hs : ir s) (hB : B ≤ 90000) (hl : q.1.length < 40) : x_Mx mm_De_pass [.inr (some 3), .inl s] h (fun r hf => r = none ∧ scD hf (dpS s q) (B + 1) ∧ gr (fun i => i = 3 ∨ i = 4) 0 0 h hf) := by
  refine xmx rfl (nl rfl) ?_
  obtain ⟨dr, d1, c3, c4, d4, d5, d6⟩ := hd
  show x_X _ 0 [some (.inr (some 3)), some (.inl s)] [] _ _
  refine xx (xs_iload_n dm_De_pass_0 rfl) ?_
  refine xx (xs_bipush dm_De_pass_1 (by decide)) ?_
  refine xx_icmp_ge (tgt := 7) dm_De_pass_3 rfl hs (by unfold ir; omega) (fun hc => ?_) (fun hc => ?_)
  · change x_X _ 7 _ _ _ _
    refine de_pass_l (R := q.1) (by omega) d1 d5 h c3 c4 d4 d6 (by omega) (fun h0 c3 c4 k3 k4 k5 => ?_)
    have hpl := dpP_le q.1 q.2
    generalize hP : dpP q.1 q.2 = P at c3 c4 k3 k4 hpl
    show x_X _ 45 [some (.inr (some 3)), some (.inl s)] [] _ _
    refine xx (xs_aload_n dm_De_pass_45 rfl) ?_
    refine xx (xs_dup dm_De_pass_46) ?_
    refine xx (xs_getf dm_De_pass_47 lf_De_19 c3 rfl) ?_
    refine xx (xs_iload_n dm_De_pass_50 rfl) ?_
    refine xcS (as := [.inl s]) (rest := [.inl q.2, .inr (some 3)]) dm_De_pass_51 lc_Ro_termsWithin lm_De_22 li_Ro_termsWithin (nr rfl rfl) rfl rfl (nl rfl) (ro_tw hs) ?_
    rintro _ hx9 ⟨rfl, hhx9⟩
    have hhx9 := hhx9.symm
    subst hhx9
    show x_X _ 54 [some (.inr (some 3)), some (.inl s)] [.inl (tw s), .inl q.2, .inr (some 3)] _ _
    refine xx (xs_iconst dm_De_pass_54) ?_
    refine xx (xs_isub dm_De_pass_55) ?_
    refine xx (xs_iadd dm_De_pass_56) ?_
    refine xx (xs_putf dm_De_pass_57 lp_De_19 c3 (nl rfl) (x_ft_i _)) ?_
    obtain ⟨h1, hh1⟩ : ∃ x : xH, x = (h0.1.set 3 (.inr (.inr (0, [.inr (some 4), .inl (P.length : Int), .inl (q.2 + ((tw s) - 1))]))), h0.2) := ⟨_, rfl⟩
    show x_X _ 60 [some (.inr (some 3)), some (.inl s)] [] (h0.1.set 3 (.inr (.inr (0, [.inr (some 4), .inl (P.length : Int), .inl (q.2 + ((tw s) - 1))]))), h0.2) _
    rw [← hh1]
    have c4 : h1.1[4]? = some (.inl (dr)) := by rw [hh1]; exact set_kp c4 c3 (by simp)
    have c3_o := c3
    have c3 : h1.1[3]? = some (.inr (.inr (0, [.inr (some 4), .inl (P.length : Int), .inl (q.2 + ((tw s) - 1))]))) := by rw [hh1]; exact set_at c3_o
    refine xx (xs_iload_n dm_De_pass_60 rfl) ?_
    refine xx (xs_bipush dm_De_pass_61 (by decide)) ?_
    refine xx_icmp_ne (tgt := 103) dm_De_pass_63 rfl hs (by unfold ir; omega) (fun hc2 => ?_) (fun hc2 => ?_)
    · change x_X _ 103 _ _ _ _
      have e2 : (dpS s q) = (P, q.2 + (tw s - 1)) := by
        unfold dpS tw
        rw [if_neg (by omega), hP]
        by_cases h12 : s = 12
        · rw [if_pos h12, if_pos h12]; simp
        · rw [if_neg h12, if_neg hc2, if_neg h12, if_neg hc2]; simp; omega
      have htw : tw s = 0 ∨ tw s = 2 := by
        unfold tw
        by_cases h12 : s = 12
        · rw [if_pos h12]; exact Or.inr rfl
        · rw [if_neg h12, if_neg hc2]; exact Or.inl rfl
      exact ⟨_, _, xb_v dm_De_pass_103 rfl, rfl, ⟨dr, d1, by rw [e2]; exact c3, c4, by rw [e2]; exact k3, by rw [e2]; show -(_ : Int) ≤ q.2 + _ ∧ q.2 + _ ≤ _; omega, by rw [e2]; exact fun x hx => by have := k4 x hx; omega⟩, gr_tr k5 (hh1 ▸ gr_set) (fun i _ e => Or.inl e) (Nat.le_refl _) (Nat.le_refl _)⟩
    · change x_X _ 66 _ _ _ _
      have h13 : s = 13 := by omega
      have e2 : (dpS s q) = ((q.2 - 1) :: P, q.2) := by
        unfold dpS
        rw [if_neg (by omega), hP, if_neg (by omega), if_pos h13]
      have htw : tw s = 1 := by unfold tw; rw [if_neg (by omega), if_pos h13]
      refine xx (xs_aload_n dm_De_pass_66 rfl) ?_
      refine xx (xs_getf dm_De_pass_67 lf_De_15 c3 rfl) ?_
      refine xx (xs_aload_n dm_De_pass_70 rfl) ?_
      refine xx (xs_getf dm_De_pass_71 lf_De_9 c3 rfl) ?_
      refine xx (xs_alenI dm_De_pass_74 c4) ?_
      refine xx (xs_icmp_ge_f (tgt := 103) dm_De_pass_75 rfl (by unfold ir; omega) (by unfold ir; omega) (by omega)) ?_
      refine xx (xs_aload_n dm_De_pass_78 rfl) ?_
      refine xx (xs_getf dm_De_pass_79 lf_De_9 c3 rfl) ?_
      refine xx (xs_aload_n dm_De_pass_82 rfl) ?_
      refine xx (xs_getf dm_De_pass_83 lf_De_15 c3 rfl) ?_
      refine xx (xs_aload_n dm_De_pass_86 rfl) ?_
      refine xx (xs_getf dm_De_pass_87 lf_De_19 c3 rfl) ?_
      refine xx (xs_iconst dm_De_pass_90) ?_
      refine xx (xs_isub dm_De_pass_91) ?_
      refine xx (xs_iast dm_De_pass_92 c4 (by omega) (by omega) (by omega)) ?_
      obtain ⟨h2, hh2⟩ : ∃ x : xH, x = (h1.1.set 4 (.inl (dr.set ((P.length : Int)).toNat (((q.2 + ((tw s) - 1)) - 1)))), h1.2) := ⟨_, rfl⟩
      show x_X _ 93 [some (.inr (some 3)), some (.inl s)] [] (h1.1.set 4 (.inl (dr.set ((P.length : Int)).toNat (((q.2 + ((tw s) - 1)) - 1)))), h1.2) _
      rw [← hh2]
      have c3 : h2.1[3]? = some (.inr (.inr (0, [.inr (some 4), .inl (P.length : Int), .inl (q.2 + ((tw s) - 1))]))) := by rw [hh2]; exact set_kp c3 c4 (by simp)
      have c4_o := c4
      have c4 : h2.1[4]? = some (.inl (dr.set ((P.length : Int)).toNat (((q.2 + ((tw s) - 1)) - 1)))) := by rw [hh2]; exact set_at c4_o
      refine xx (xs_aload_n dm_De_pass_93 rfl) ?_
      refine xx (xs_dup dm_De_pass_94) ?_
      refine xx (xs_getf dm_De_pass_95 lf_De_15 c3 rfl) ?_
      refine xx (xs_iconst dm_De_pass_98) ?_
      refine xx (xs_iadd dm_De_pass_99) ?_
      refine xx (xs_putf dm_De_pass_100 lp_De_15 c3 (nl rfl) (x_ft_i _)) ?_
      obtain ⟨h3, hh3⟩ : ∃ x : xH, x = (h2.1.set 3 (.inr (.inr (0, [.inr (some 4), .inl ((P.length : Int) + 1), .inl (q.2 + ((tw s) - 1))]))), h2.2) := ⟨_, rfl⟩
      show x_X _ 103 [some (.inr (some 3)), some (.inl s)] [] (h2.1.set 3 (.inr (.inr (0, [.inr (some 4), .inl ((P.length : Int) + 1), .inl (q.2 + ((tw s) - 1))]))), h2.2) _
      rw [← hh3]
      have c4 : h3.1[4]? = some (.inl (dr.set ((P.length : Int)).toNat (((q.2 + ((tw s) - 1)) - 1)))) := by rw [hh3]; exact set_kp c4 c3 (by simp)
      have c3_o := c3
      have c3 : h3.1[3]? = some (.inr (.inr (0, [.inr (some 4), .inl ((P.length : Int) + 1), .inl (q.2 + ((tw s) - 1))]))) := by rw [hh3]; exact set_at c3_o
      refine ⟨_, _, xb_v dm_De_pass_103 rfl, rfl, ⟨_, by simp; exact d1, by rw [e2, c3]; congr 5; simp [htw], c4, ?_, by rw [e2]; show -(_ : Int) ≤ q.2 ∧ q.2 ≤ _; omega, ?_⟩, gr_tr (gr_tr (gr_tr k5 (hh1 ▸ gr_set) (fun i _ e => Or.inl e) (Nat.le_refl _) (Nat.le_refl _)) (hh2 ▸ gr_set (h := h1)) (fun i _ e => Or.inr e) (Nat.le_refl _) (Nat.le_refl _)) (hh3 ▸ gr_set (h := h2)) (fun i _ e => Or.inl e) (Nat.le_refl _) (Nat.le_refl _)⟩
      · rw [e2]
        intro i x hx
        rw [List.reverse_cons] at hx
        have hil := (List.getElem?_eq_some_iff.mp hx).1
        simp at hil
        by_cases hi : i < P.length
        · rw [List.getElem?_append_left (by simpa using hi)] at hx
          rw [List.getElem?_set_ne (by omega)]
          exact k3 i x hx
        · have hi2 : i = P.length := by omega
          subst hi2
          have hx' : q.2 - 1 = x := by simpa using hx
          rw [show ((P.length : Int)).toNat = P.length from rfl, List.getElem?_set_self (by omega), ← hx', htw]
          congr 1
          omega
      · rw [e2]
        intro x hx
        rcases List.mem_cons.mp hx with h | h
        · rw [h]; omega
        · have := k4 x h; omega
  · change x_X _ 6 _ _ _ _
    exact ⟨_, _, xb_v dm_De_pass_6 rfl, rfl, ⟨dr, d1, by rw [dpS, if_pos (by omega)]; exact c3, c4, by rw [dpS, if_pos (by omega)]; exact d4, by rw [dpS, if_pos (by omega)]; omega, by rw [dpS, if_pos (by omega)]; exact fun x hx => by have := d6 x hx; omega⟩, gr_rf _ _⟩
