/-! the library's copy, the scribe's page -/
section XMM
variable {M : xM} {pc : Nat} {L : List (Option xV)} {st : List xV} {h : xH}
theorem xs_mmin {idx : Nat} {x y : Int} (hd : decode M.2.1 pc = .ok (.invokestatic idx, 3)) (hlk : Cond.methodLink M.1.cls idx Lib.Math.min.name ∈ x_ws ∧ Cond.static Lib.Math.min.name ∈ x_ws ∧ Cond.initialized "java/lang/Math" ∈ x_ws ∧ Cond.code Lib.Math.min.name Lib.Math.min.code 2 (some .int) ∈ x_ws) (hx : ir x) (hy : ir y) (hrr : 1 ≤ M.2.2.2.2.1 ∧ st.length + 13 ≤ M.2.2.2.2.2) : x_S M pc L (.inl y :: .inl x :: st) h (pc + 3) L (.inl (min x y) :: st) h := by
  intro r hf hb
  obtain ⟨hle, hw⟩ := hb
  refine ⟨hle, fun p l e s m args below meth c H locs ls d k0 n0 hC hR hL h1 h2 hq => ?_⟩
  have hC' := hC
  obtain ⟨hx', hbt, hml, hown, hts, hret, hlk', hnm, hK⟩ := hC'
  refine va_mmin hx' hbt (by rw [hml]; exact hL.1.symm) hown (hts _ (List.mem_cons_of_mem _ hlk.1)) (hts _ (List.mem_cons_of_mem _ hlk.2.1)) (hts _ (List.mem_cons_of_mem _ hlk.2.2.1)) (hts _ (List.mem_cons_of_mem _ hlk.2.2.2)) hrr.1 (by rw [x_sum]; exact hrr.2) (by show _ ≤ hf.1.length - k0; omega) (by show _ ≤ hf.2 - n0; omega) hd ?_
  have e1 : (if Int32.ofInt y < Int32.ofInt x then Int32.ofInt y else Int32.ofInt x) = Int32.ofInt (min x y) := by
    by_cases hc : y < x
    · rw [if_pos ((x_lt hy hx).mpr hc), show min x y = y by omega]
    · rw [if_neg (fun q => hc ((x_lt hy hx).mp q)), show min x y = x by omega]
  rw [e1]
  exact hw p l e s m args below meth c H locs ls d k0 n0 hC hR hL h1 h2 hq
theorem xs_mmax {idx : Nat} {x y : Int} (hd : decode M.2.1 pc = .ok (.invokestatic idx, 3)) (hlk : Cond.methodLink M.1.cls idx Lib.Math.max.name ∈ x_ws ∧ Cond.static Lib.Math.max.name ∈ x_ws ∧ Cond.initialized "java/lang/Math" ∈ x_ws ∧ Cond.code Lib.Math.max.name Lib.Math.max.code 2 (some .int) ∈ x_ws) (hx : ir x) (hy : ir y) (hrr : 1 ≤ M.2.2.2.2.1 ∧ st.length + 13 ≤ M.2.2.2.2.2) : x_S M pc L (.inl y :: .inl x :: st) h (pc + 3) L (.inl (max x y) :: st) h := by
  intro r hf hb
  obtain ⟨hle, hw⟩ := hb
  refine ⟨hle, fun p l e s m args below meth c H locs ls d k0 n0 hC hR hL h1 h2 hq => ?_⟩
  have hC' := hC
  obtain ⟨hx', hbt, hml, hown, hts, hret, hlk', hnm, hK⟩ := hC'
  refine va_mmax hx' hbt (by rw [hml]; exact hL.1.symm) hown (hts _ (List.mem_cons_of_mem _ hlk.1)) (hts _ (List.mem_cons_of_mem _ hlk.2.1)) (hts _ (List.mem_cons_of_mem _ hlk.2.2.1)) (hts _ (List.mem_cons_of_mem _ hlk.2.2.2)) hrr.1 (by rw [x_sum]; exact hrr.2) (by show _ ≤ hf.1.length - k0; omega) (by show _ ≤ hf.2 - n0; omega) hd ?_
  have e1 : (if Int32.ofInt x < Int32.ofInt y then Int32.ofInt y else Int32.ofInt x) = Int32.ofInt (max x y) := by
    by_cases hc : x < y
    · rw [if_pos ((x_lt hx hy).mpr hc), show max x y = y by omega]
    · rw [if_neg (fun q => hc ((x_lt hx hy).mp q)), show max x y = x by omega]
  rw [e1]
  exact hw p l e s m args below meth c H locs ls d k0 n0 hC hR hL h1 h2 hq
end XMM
theorem lx_min : Cond.methodLink "java/util/Arrays" 304 Lib.Math.min.name ∈ x_ws ∧ Cond.static Lib.Math.min.name ∈ x_ws ∧ Cond.initialized "java/lang/Math" ∈ x_ws ∧ Cond.code Lib.Math.min.name Lib.Math.min.code 2 (some .int) ∈ x_ws := ⟨x_at 149 (by decide +kernel) rfl, x_at 150 (by decide +kernel) rfl, x_at 9 (by decide +kernel) rfl, x_at 151 (by decide +kernel) rfl⟩
theorem lx_max : Cond.methodLink "SequentMachine$Shelf" 19 Lib.Math.max.name ∈ x_ws ∧ Cond.static Lib.Math.max.name ∈ x_ws ∧ Cond.initialized "java/lang/Math" ∈ x_ws ∧ Cond.code Lib.Math.max.name Lib.Math.max.code 2 (some .int) ∈ x_ws := ⟨x_at 216 (by decide +kernel) rfl, x_at 217 (by decide +kernel) rfl, x_at 9 (by decide +kernel) rfl, x_at 218 (by decide +kernel) rfl⟩
set_option maxHeartbeats 4000000 in
set_option maxRecDepth 100000 in
theorem ar_copyOf {h : xH} {a n : Nat} {f : List Int} {nn : Int} (ha : h.1[a]? = some (.inl f)) (hf : f.length ≤ 1000) (hnn : nn = n) (hn : n ≤ f.length) : x_Mx mm_Ar_copyOf [.inr (some a), .inl nn] h (fun r hf => r = some (.inr (some h.1.length)) ∧ hf = (h.1 ++ [.inl (f.take n)], h.2 + n)) := by
  refine xmx rfl (nl rfl) ?_
  subst hnn
  show x_X _ 0 [some (.inr (some a)), some (.inl (n : Int)), none] [] _ _
  refine xx (xs_iload_n dm_Ar_copyOf_0 rfl) ?_
  refine xx (xs_aload_n dm_Ar_copyOf_1 rfl) ?_
  refine xx (xs_alenI dm_Ar_copyOf_2 ha) ?_
  refine xx_icmp_ne (tgt := 14) dm_Ar_copyOf_3 rfl (by unfold ir; omega) (by unfold ir; omega) (fun hc => ?_) (fun hc => ?_)
  · change x_X _ 14 _ _ _ _
    refine xx (xs_iload_n dm_Ar_copyOf_14 rfl) ?_
    refine xx (xs_newarr (idx := 0) dm_Ar_copyOf_15 la_int (by omega) (by omega)) ?_
    refine xx (xs_astore_n dm_Ar_copyOf_17 (by decide)) ?_
    obtain ⟨h1, hh1⟩ : ∃ x : xH, x = (h.1 ++ [.inl (List.replicate n 0)], h.2 + n) := ⟨_, rfl⟩
    show x_X _ 18 [some (.inr (some a)), some (.inl (n : Int)), some (.inr (some h.1.length))] [] (h.1 ++ [.inl (List.replicate n 0)], h.2 + n) _
    rw [← hh1]
    have hn1 : h1.1[h.1.length]? = some (.inl (List.replicate n 0)) := by rw [hh1]; exact push_at
    have ha1 : h1.1[a]? = some (.inl f) := by rw [hh1]; exact push_old ha
    refine xx (xs_aload_n dm_Ar_copyOf_18 rfl) ?_
    refine xx (xs_iconst dm_Ar_copyOf_19) ?_
    refine xx (xs_aload_n dm_Ar_copyOf_20 rfl) ?_
    refine xx (xs_iconst dm_Ar_copyOf_21) ?_
    refine xx (xs_aload_n dm_Ar_copyOf_22 rfl) ?_
    refine xx (xs_alenI dm_Ar_copyOf_23 ha1) ?_
    refine xx (xs_iload_n dm_Ar_copyOf_24 rfl) ?_
    refine xx (xs_mmin dm_Ar_copyOf_25 lx_min (by unfold ir; omega) (by unfold ir; omega) ⟨nl rfl, nl rfl⟩) ?_
    rw [show min (f.length : Int) (n : Int) = (n : Int) by omega]
    show x_X _ 28 _ [.inl (n : Int), .inl 0, .inr (some h.1.length), .inl 0, .inr (some a)] _ _
    refine xx (xs_copy dm_Ar_copyOf_28 lx_copy ha1 hn1 (by omega) hn (by simp) ⟨nl rfl, nl rfl⟩) ?_
    refine xx (xs_aload_n dm_Ar_copyOf_31 rfl) ?_
    refine ⟨_, _, xb_a dm_Ar_copyOf_32 rfl (Or.inr ⟨_, rfl⟩), rfl, ?_⟩
    rw [hh1]
    simp
  · change x_X _ 6 _ _ _ _
    refine xx (xs_aload_n dm_Ar_copyOf_6 rfl) ?_
    refine xx (xs_clone dm_Ar_copyOf_7 lx_clone ha ⟨nl rfl, nl rfl⟩) ?_
    refine xx (xs_castA dm_Ar_copyOf_10 lx_cast push_at) ?_
    refine ⟨_, _, xb_a dm_Ar_copyOf_13 rfl (Or.inr ⟨_, rfl⟩), rfl, ?_⟩
    rw [List.take_of_length_le (by omega), show f.length = n by omega]
def scP (h : xH) (w : List Int) : Prop := ∃ pg : List Int, pg.length = 81 ∧ h.1[1]? = some (.inr (.inr (5, [.inr (some 2), .inl ((min w.length 81 : Nat) : Int), .inr (some 3), .inr (some 5)]))) ∧ h.1[2]? = some (.inl pg) ∧ irL w ∧ ∀ (i : Nat) (x : Int), i < 81 → w[i]? = some x → pg[i]? = some x
theorem scP_gr {P : Nat → Prop} {C S : Nat} {h hf : xH} {w : List Int} (hd : scP h w) (hg : gr P C S h hf) (h1 : ¬ P 1) (h2 : ¬ P 2) : scP hf w := by
  obtain ⟨pg, a1, a2, a3, a4⟩ := hd
  exact ⟨pg, a1, hg.2 1 _ h1 a2, hg.2 2 _ h2 a3, a4⟩
abbrev pP : Nat → Prop := fun i => i = 1 ∨ i = 2
set_option maxHeartbeats 4000000 in
set_option maxRecDepth 100000 in
theorem sc_put {h : xH} {w : List Int} {x : Int} (hp : scP h w) (hx : ir x) : x_Mx mm_Sc_put [.inr (some 1), .inl x] h (fun r hf => r = none ∧ scP hf (w ++ [x]) ∧ gr pP 0 0 h hf) := by
  refine xmx rfl (nl rfl) ?_
  obtain ⟨pg, p1, c1, c2, p4, p5⟩ := hp
  have hir : irL (w ++ [x]) := fun z hz => by
    rcases List.mem_append.mp hz with h | h
    · exact p4 z h
    · rw [List.mem_singleton] at h; rw [h]; exact hx
  show x_X _ 0 [some (.inr (some 1)), some (.inl x)] [] _ _
  refine xx (xs_aload_n dm_Sc_put_0 rfl) ?_
  refine xx (xs_getf dm_Sc_put_1 lf_Sc_80 c1 rfl) ?_
  refine xx (xs_aload_n dm_Sc_put_4 rfl) ?_
  refine xx (xs_getf dm_Sc_put_5 lf_Sc_9 c1 rfl) ?_
  refine xx (xs_alenI dm_Sc_put_8 c2) ?_
  refine xx_icmp_ge (tgt := 32) dm_Sc_put_9 rfl (by unfold ir; omega) (by unfold ir; omega) (fun hc => ?_) (fun hc => ?_)
  · change x_X _ 32 _ _ _ _
    have hm : min (w ++ [x]).length 81 = min w.length 81 := by simp; omega
    exact ⟨_, _, xb_v dm_Sc_put_32 rfl, rfl, ⟨pg, p1, by rw [hm]; exact c1, c2, hir, fun i y hi hy => p5 i y hi (by rw [List.getElem?_append_left (by omega)] at hy; exact hy)⟩, gr_rf _ _⟩
  · change x_X _ 12 _ _ _ _
    have hlt : w.length < 81 := by omega
    refine xx (xs_aload_n dm_Sc_put_12 rfl) ?_
    refine xx (xs_getf dm_Sc_put_13 lf_Sc_9 c1 rfl) ?_
    refine xx (xs_aload_n dm_Sc_put_16 rfl) ?_
    refine xx (xs_getf dm_Sc_put_17 lf_Sc_80 c1 rfl) ?_
    refine xx (xs_iload_n dm_Sc_put_20 rfl) ?_
    refine xx (xs_iast dm_Sc_put_21 c2 (by omega) (by omega) (by omega)) ?_
    obtain ⟨h1, hh1⟩ : ∃ hX : xH, hX = (h.1.set 2 (.inl (pg.set (((min w.length 81 : Nat) : Int)).toNat (x))), h.2) := ⟨_, rfl⟩
    show x_X _ 22 [some (.inr (some 1)), some (.inl x)] [] (h.1.set 2 (.inl (pg.set (((min w.length 81 : Nat) : Int)).toNat (x))), h.2) _
    rw [← hh1]
    have c1 : h1.1[1]? = some (.inr (.inr (5, [.inr (some 2), .inl ((min w.length 81 : Nat) : Int), .inr (some 3), .inr (some 5)]))) := by rw [hh1]; exact set_kp c1 c2 (by simp)
    have c2_o := c2
    have c2 : h1.1[2]? = some (.inl (pg.set (((min w.length 81 : Nat) : Int)).toNat (x))) := by rw [hh1]; exact set_at c2_o
    refine xx (xs_aload_n dm_Sc_put_22 rfl) ?_
    refine xx (xs_dup dm_Sc_put_23) ?_
    refine xx (xs_getf dm_Sc_put_24 lf_Sc_80 c1 rfl) ?_
    refine xx (xs_iconst dm_Sc_put_27) ?_
    refine xx (xs_iadd dm_Sc_put_28) ?_
    refine xx (xs_putf dm_Sc_put_29 lp_Sc_80 c1 (nl rfl) (x_ft_i _)) ?_
    obtain ⟨h2, hh2⟩ : ∃ hX : xH, hX = (h1.1.set 1 (.inr (.inr (5, [.inr (some 2), .inl (((min w.length 81 : Nat) : Int) + 1), .inr (some 3), .inr (some 5)]))), h1.2) := ⟨_, rfl⟩
    show x_X _ 32 [some (.inr (some 1)), some (.inl x)] [] (h1.1.set 1 (.inr (.inr (5, [.inr (some 2), .inl (((min w.length 81 : Nat) : Int) + 1), .inr (some 3), .inr (some 5)]))), h1.2) _
    rw [← hh2]
    have c2 : h2.1[2]? = some (.inl (pg.set (((min w.length 81 : Nat) : Int)).toNat (x))) := by rw [hh2]; exact set_kp c2 c1 (by simp)
    have c1_o := c1
    have c1 : h2.1[1]? = some (.inr (.inr (5, [.inr (some 2), .inl (((min w.length 81 : Nat) : Int) + 1), .inr (some 3), .inr (some 5)]))) := by rw [hh2]; exact set_at c1_o
    refine ⟨_, _, xb_v dm_Sc_put_32 rfl, rfl, ⟨_, by simp; exact p1, by rw [c1]; congr 5; simp; omega, c2, hir, ?_⟩, gr_tr (gr_w (hh1 ▸ gr_set) (fun i _ e => Or.inr e) (Nat.le_refl _) (Nat.le_refl _)) (hh2 ▸ gr_set (h := h1)) (fun i _ e => Or.inl e) (Nat.le_refl _) (Nat.le_refl _)⟩
    intro i y hi hy
    have hil := (List.getElem?_eq_some_iff.mp hy).1
    simp at hil
    rw [show ((min w.length 81 : Nat) : Int).toNat = w.length by omega]
    by_cases hw : i < w.length
    · rw [List.getElem?_append_left hw] at hy
      rw [List.getElem?_set_ne (by omega)]
      exact p5 i y hi hy
    · have hw2 : i = w.length := by omega
      subst hw2
      have hy' : x = y := by simpa using hy
      rw [List.getElem?_set_self (by omega), hy']
set_option maxHeartbeats 4000000 in
set_option maxRecDepth 100000 in
theorem sc_putRow_l {h0 : xH} {a : Nat} {w l : List Int} : ∀ (N k : Nat) (kk : Int) (h : xH), l.length - k < N → k ≤ l.length → kk = k → scP h (w ++ l.take k) → rwA h a l → gr pP 0 0 h0 h → x_X mm_Sc_putRow 2 [some (.inr (some 1)), some (.inr (some a)), some (.inl kk)] [] h (fun r hf => r = none ∧ scP hf (w ++ l) ∧ gr pP 0 0 h0 hf) := by
  intro N
  induction N with
  | zero => intro k kk h hN; omega
  | succ N ih =>
    intro k kk h hN hk hkk hp hr hg
    have hr' := hr
    have l1 := rwA_len hr
    obtain ⟨ra, ri, s, f, A, rs, rc, rd, rl, rf, rg⟩ := hr
    by_cases hkn : k = l.length
    · refine xx (xs_iload_n dm_Sc_putRow_2 rfl) ?_
      refine xx (xs_aload_n dm_Sc_putRow_3 rfl) ?_
      refine xx (xs_getf dm_Sc_putRow_4 lf_Sc_47 rc rfl) ?_
      refine xx (xs_icmp_ge_t (tgt := 25) dm_Sc_putRow_7 rfl (by unfold ir; omega) (by unfold ir; omega) (by omega)) ?_
      exact ⟨_, _, xb_v dm_Sc_putRow_25 rfl, rfl, by rw [hkn, List.take_length] at hp; exact hp, hg⟩
    · obtain ⟨x, hx⟩ : ∃ x, l[k]? = some x := ⟨_, List.getElem?_eq_getElem (by omega)⟩
      have e1 : atL l kk = x := by rw [hkk]; exact atL_n hx
      have htk : l.take (k + 1) = l.take k ++ [x] := by rw [List.take_succ, hx]; rfl
      have hp' := hp
      obtain ⟨pg, p1, c1, c2, p4, p5⟩ := hp
      have ix : ir (atL l kk) := atL_ir ri _
      refine xx (xs_iload_n dm_Sc_putRow_2 rfl) ?_
      refine xx (xs_aload_n dm_Sc_putRow_3 rfl) ?_
      refine xx (xs_getf dm_Sc_putRow_4 lf_Sc_47 rc rfl) ?_
      refine xx (xs_icmp_ge_f (tgt := 25) dm_Sc_putRow_7 rfl (by unfold ir; omega) (by unfold ir; omega) (by omega)) ?_
      refine xx (xs_aload_n dm_Sc_putRow_10 rfl) ?_
      refine xx (xs_aload_n dm_Sc_putRow_11 rfl) ?_
      refine xx (xs_iload_n dm_Sc_putRow_12 rfl) ?_
      refine xcV (as := [.inl kk]) (rest := [.inr (some 1)]) dm_Sc_putRow_13 lc_Ro_at lm_Sc_51 li_Ro_at (nr rfl rfl) rfl rfl rc rfl (nl rfl) (ro_at hr' (by unfold ir; omega)) ?_
      rintro _ hx9 ⟨rfl, hhx9⟩
      have hhx9 := hhx9.symm
      subst hhx9
      show x_X _ 16 [some (.inr (some 1)), some (.inr (some a)), some (.inl kk)] [.inl (atL l kk), .inr (some 1)] _ _
      refine xcV (as := [.inl (atL l kk)]) (rest := []) dm_Sc_putRow_16 lc_Sc_put lm_Sc_28 li_Sc_put (nr rfl rfl) rfl rfl c1 rfl (nl rfl) (sc_put hp' ix) ?_
      rintro _ h2 ⟨rfl, hp2, hg2⟩
      show x_X _ 19 [some (.inr (some 1)), some (.inr (some a)), some (.inl kk)] [] _ _
      refine xx (xs_iinc dm_Sc_putRow_19 rfl (by decide)) ?_
      show x_X _ 22 [some (.inr (some 1)), some (.inr (some a)), some (.inl (kk + 1))] [] _ _
      refine xx (xs_goto (tgt := 2) dm_Sc_putRow_22 rfl) ?_
      exact ih (k + 1) _ h2 (by omega) (by omega) (by omega) (by rw [htk, ← List.append_assoc, ← e1]; exact hp2) (rwA_lo hr' hg2 (fun i hi e => by rcases e with e | e <;> omega)) (gr_tr hg hg2 (fun i _ e => e) (Nat.le_refl _) (Nat.le_refl _))
set_option maxHeartbeats 4000000 in
set_option maxRecDepth 100000 in
theorem sc_putRow {h : xH} {a : Nat} {w l : List Int} (hp : scP h w) (hr : rwA h a l) : x_Mx mm_Sc_putRow [.inr (some 1), .inr (some a)] h (fun r hf => r = none ∧ scP hf (w ++ l) ∧ gr pP 0 0 h hf) := by
  refine xmx rfl (nl rfl) ?_
  show x_X _ 0 [some (.inr (some 1)), some (.inr (some a)), none] [] _ _
  refine xx (xs_iconst dm_Sc_putRow_0) ?_
  refine xx (xs_istore_n dm_Sc_putRow_1 (by decide)) ?_
  show x_X _ 2 [some (.inr (some 1)), some (.inr (some a)), some (.inl 0)] [] _ _
  exact sc_putRow_l (l.length + 1) 0 0 h (by omega) (by omega) rfl (by simpa using hp) hr (gr_rf _ _)
set_option maxHeartbeats 4000000 in
set_option maxRecDepth 100000 in
theorem sc_finishedRow {h : xH} {w : List Int} (hp : scP h w) (h16 : 23 ≤ h.1.length) : x_Mx mm_Sc_finishedRow [.inr (some 1)] h (fun r hf => nrow pP 2 84 h (w.take 81) r hf ∧ scP hf []) := by
  refine xmx rfl (nl rfl) ?_
  obtain ⟨pg, p1, c1, c2, p4, p5⟩ := hp
  obtain ⟨m, hm⟩ : ∃ m : Nat, m = min w.length 81 := ⟨_, rfl⟩
  rw [← hm] at c1
  show x_X _ 0 [some (.inr (some 1)), none] [] _ _
  refine xx (xs_new dm_Sc_finishedRow_0 ln_Sc_22) ?_
  obtain ⟨h1, hh1⟩ : ∃ hX : xH, hX = (h.1 ++ [.inr (.inr (4, [.inr none, .inl 0, .inl 0]))], h.2 + 3) := ⟨_, rfl⟩
  show x_X _ 3 [some (.inr (some 1)), none] [.inr (some h.1.length)] (h.1 ++ [.inr (.inr (4, [.inr none, .inl 0, .inl 0]))], h.2 + 3) _
  rw [← hh1]
  have c1 : h1.1[1]? = some (.inr (.inr (5, [.inr (some 2), .inl (m : Int), .inr (some 3), .inr (some 5)]))) := by rw [hh1]; exact push_old c1
  have c2 : h1.1[2]? = some (.inl (pg)) := by rw [hh1]; exact push_old c2
  have nw : h1.1[h.1.length]? = some (.inr (.inr (4, [.inr none, .inl 0, .inl 0]))) := by rw [hh1]; exact push_at
  refine xx (xs_dup dm_Sc_finishedRow_3) ?_
  refine xx (xs_aload_n dm_Sc_finishedRow_4 rfl) ?_
  refine xx (xs_getf dm_Sc_finishedRow_5 lf_Sc_9 c1 rfl) ?_
  refine xx (xs_aload_n dm_Sc_finishedRow_8 rfl) ?_
  refine xx (xs_getf dm_Sc_finishedRow_9 lf_Sc_80 c1 rfl) ?_
  refine xcS (as := [.inr (some 2), .inl (m : Int)]) (rest := [.inr (some h.1.length), .inr (some h.1.length)]) dm_Sc_finishedRow_12 lc_Ar_copyOf lm_Sc_83 li_Ar_copyOf (nr rfl rfl) rfl rfl (nl rfl) (ar_copyOf (n := m) c2 (by omega) rfl (by omega)) ?_
  rintro _ h2 ⟨rfl, hh2⟩
  show x_X _ 15 [some (.inr (some 1)), none] [.inr (some h1.1.length), .inr (some h.1.length), .inr (some h.1.length)] _ _
  have c1 : h2.1[1]? = some (.inr (.inr (5, [.inr (some 2), .inl (m : Int), .inr (some 3), .inr (some 5)]))) := by rw [hh2]; exact push_old c1
  have c2 : h2.1[2]? = some (.inl (pg)) := by rw [hh2]; exact push_old c2
  have nw2 : h2.1[h.1.length]? = some (.inr (.inr (4, [.inr none, .inl 0, .inl 0]))) := by rw [hh2]; exact push_old nw
  have na : h2.1[h1.1.length]? = some (.inl (pg.take m)) := by rw [hh2]; exact push_at
  have hl1 : h1.1.length = h.1.length + 1 := by rw [hh1]; simp
  refine xx (xs_iconst dm_Sc_finishedRow_15) ?_
  refine xx (xs_aload_n dm_Sc_finishedRow_16 rfl) ?_
  refine xx (xs_getf dm_Sc_finishedRow_17 lf_Sc_80 c1 rfl) ?_
  refine xcI (as := [.inr (some h1.1.length), .inl 0, .inl (m : Int)]) (rest := [.inr (some h.1.length)]) dm_Sc_finishedRow_20 lc_Ro_init lm_Sc_89 li_Ro_init (nr rfl rfl) rfl rfl (nl rfl) (ro_init nw2 na (by simp; omega) (by unfold ir; omega) (by unfold ir; omega) ⟨by omega, by omega, by simp; omega⟩) ?_
  rintro _ h3 hh3
  show x_X _ 23 [some (.inr (some 1)), none] [.inr (some h.1.length)] _ _
  have c1 : h3.1[1]? = some (.inr (.inr (5, [.inr (some 2), .inl (m : Int), .inr (some 3), .inr (some 5)]))) := by rw [hh3]; exact set_kp c1 nw2 (by simp)
  have c2 : h3.1[2]? = some (.inl (pg)) := by rw [hh3]; exact set_kp c2 nw2 (by simp)
  have nw3 : h3.1[h.1.length]? = some (.inr (.inr (4, [.inr (some h1.1.length), .inl 0, .inl ((m : Int) - 0)]))) := by rw [hh3]; exact set_at nw2
  have na3 : h3.1[h1.1.length]? = some (.inl (pg.take m)) := by rw [hh3]; exact set_kp na nw2 (by simp)
  refine xx (xs_astore_n dm_Sc_finishedRow_23 (by decide)) ?_
  show x_X _ 24 [some (.inr (some 1)), some (.inr (some h.1.length))] [] _ _
  refine xx (xs_aload_n dm_Sc_finishedRow_24 rfl) ?_
  refine xx (xs_iconst dm_Sc_finishedRow_25) ?_
  refine xx (xs_putf dm_Sc_finishedRow_26 lp_Sc_80 c1 (nl rfl) (x_ft_i _)) ?_
  obtain ⟨h4, hh4⟩ : ∃ hX : xH, hX = (h3.1.set 1 (.inr (.inr (5, [.inr (some 2), .inl 0, .inr (some 3), .inr (some 5)]))), h3.2) := ⟨_, rfl⟩
  show x_X _ 29 [some (.inr (some 1)), some (.inr (some h.1.length))] [] (h3.1.set 1 (.inr (.inr (5, [.inr (some 2), .inl 0, .inr (some 3), .inr (some 5)]))), h3.2) _
  rw [← hh4]
  have c2 : h4.1[2]? = some (.inl (pg)) := by rw [hh4]; exact set_kp c2 c1 (by simp)
  have c1_o := c1
  have c1 : h4.1[1]? = some (.inr (.inr (5, [.inr (some 2), .inl 0, .inr (some 3), .inr (some 5)]))) := by rw [hh4]; exact set_at c1_o
  refine xx (xs_aload_n dm_Sc_finishedRow_29 rfl) ?_
  have nw4 : h4.1[h.1.length]? = some (.inr (.inr (4, [.inr (some h1.1.length), .inl 0, .inl ((m : Int) - 0)]))) := by rw [hh4]; exact set_kp nw3 c1_o (by simp)
  have na4 : h4.1[h1.1.length]? = some (.inl (pg.take m)) := by rw [hh4]; exact set_kp na3 c1_o (by simp)
  have hlt : (w.take 81).length = m := by rw [hm]; simp; omega
  have g1 : gr pP 1 3 h h1 := hh1 ▸ gr_push _
  have g2 : gr pP 1 81 h1 h2 := gr_w (hh2 ▸ gr_push _) (fun _ _ e => e) (Nat.le_refl _) (by omega)
  have g3 : gr (fun i => i = h.1.length) 0 0 h2 h3 := hh3 ▸ gr_set
  have g4 : gr (fun i => i = 1) 0 0 h3 h4 := hh4 ▸ gr_set
  refine ⟨_, _, xb_a dm_Sc_finishedRow_30 rfl (Or.inl ⟨_, rfl⟩), ⟨_, rfl, gr_tr (gr_tr (gr_tr g1 g2 (fun i _ e => e) (C2 := 2) (S2 := 84) (by omega) (by omega)) g3 (fun i hi e => by omega) (Nat.le_refl _) (Nat.le_refl _)) g4 (fun i _ e => Or.inl e) (Nat.le_refl _) (Nat.le_refl _), by omega, fun z hz => p4 z (List.mem_of_mem_take hz), h1.1.length, 0, pg.take m, by omega, by rw [nw4, hlt]; simp, na4, by simp; omega, by simp; omega, ?_⟩, pg, p1, c1, c2, by simp [irL], by simp⟩
  intro i x hx
  have hil := (List.getElem?_eq_some_iff.mp hx).1
  rw [List.getElem?_take_of_lt (by omega)] at hx
  rw [Nat.zero_add, List.getElem?_take_of_lt (by omega)]
  exact p5 i x (by omega) hx
