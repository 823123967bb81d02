/-! define, theorem -/
theorem betC_len {u : List Int} (hu : u.length ≤ 40) (hu0 : 1 ≤ u.length) : ∀ (l : List Int) (p : List Int × Int), (betC u l p).length ≤ 40 * l.length := by
  intro l
  induction l with
  | nil => intro p; simp [betC]
  | cons s l ih =>
    intro p
    have := ih (dpS s p)
    unfold betC
    split
    · simp; omega
    · simp; omega
set_option maxHeartbeats 4000000 in
set_option maxRecDepth 100000 in
theorem re_define_l {ss ee : Int} {d s n c : Nat} (E : rE) (q0 : rS) (hd : d = 4800 + 40 * c) (hc : q0 6 3 = (c : Int)) (hc6 : c ≤ 6) (hs : ss = s) (hn : ee = (s : Int) + n) (hds : d + n ≤ s) (hs1 : s + n ≤ 10000) {Q : Option xV → rS → Prop} (hQ : rX E mm_Re_define 76 [some (.inr (some E.1.length)), some (.inl ss), some (.inl ee), some (.inl ee)] [] (cpF q0 d s n) Q) : ∀ (N k : Nat) (q : rS) (kk : Int), n - k < N → k ≤ n → kk = ss + k → q = cpF q0 d s k → rX E mm_Re_define 39 [some (.inr (some E.1.length)), some (.inl ss), some (.inl ee), some (.inl kk)] [] q Q := by
  intro N
  induction N with
  | zero => intro k q kk hN; omega
  | succ N ih =>
    intro k q kk hN hk hkk hq
    by_cases hkn : k = n
    · subst hkn
      subst hq
      have hke : kk = ee := by omega
      subst hke
      refine rx (xs_iload_n dm_Re_define_39 rfl) ?_
      refine rx (xs_iload_n dm_Re_define_40 rfl) ?_
      refine rx (xs_icmp_ge_t (tgt := 76) dm_Re_define_41 rfl (by unfold ir; omega) (by unfold ir; omega) (by omega)) ?_
      exact hQ
    · have h3 : q 6 3 = (c : Int) := by rw [hq, cpF_out (by omega)]; exact hc
      refine rx (xs_iload_n dm_Re_define_39 rfl) ?_
      refine rx (xs_iload_n dm_Re_define_40 rfl) ?_
      refine rx (xs_icmp_ge_f (tgt := 76) dm_Re_define_41 rfl (by unfold ir; omega) (by unfold ir; omega) (by omega)) ?_
      refine rx (xs_aload_n dm_Re_define_44 rfl) ?_
      refine rx (rg (v := .inr (some (rA E 0))) dm_Re_define_45 lf_Re_7 rfl) ?_
      refine rx (xs_sipush dm_Re_define_48 (by decide)) ?_
      refine rx (xs_bipush dm_Re_define_51 (by decide)) ?_
      refine rx (xs_aload_n dm_Re_define_53 rfl) ?_
      refine rx (rg (v := .inl (q 6 3)) dm_Re_define_54 lf_Re_103 rfl) ?_
      refine rx (xs_imul dm_Re_define_57) ?_
      refine rx (xs_iadd dm_Re_define_58) ?_
      refine rx (xs_iload_n dm_Re_define_59 rfl) ?_
      refine rx (xs_iadd dm_Re_define_60) ?_
      refine rx (xs_iload_n dm_Re_define_61 rfl) ?_
      refine rx (xs_isub dm_Re_define_62) ?_
      refine rx (xs_aload_n dm_Re_define_63 rfl) ?_
      refine rx (rg (v := .inr (some (rA E 0))) dm_Re_define_64 lf_Re_7 rfl) ?_
      refine rx (xs_iload_n dm_Re_define_67 rfl) ?_
      refine rx (rlv 0 (q 0 (s + k)) (by decide) dm_Re_define_68 (by omega) (by show _ < ((10000 : Nat) : Int); omega) (by rw [show kk.toNat = s + k by omega])) ?_
      refine rx (rtn 0 (d + k) (by decide) dm_Re_define_69 (by omega) (by show _ < ((10000 : Nat) : Int); omega) (by omega)) ?_
      refine rx (xs_iinc dm_Re_define_70 rfl (by decide)) ?_
      show rX E _ 73 [some (.inr (some E.1.length)), some (.inl ss), some (.inl ee), some (.inl (kk + 1))] [] _ _
      refine rx (xs_goto (tgt := 39) dm_Re_define_73 rfl) ?_
      exact ih (k + 1) _ _ (by omega) (by omega) (by omega) (by rw [hq]; exact cpF_s q0 d s k (by omega))
set_option maxHeartbeats 4000000 in
set_option maxRecDepth 100000 in
theorem re_define {q : rS} {M : mS} {ss ee : Int} {s : Nat} {a : List Int} {x : oB} {b : Bool} (hg : gM M) (hR : Rl q M) (hs : ss = s) (he : ee = (s : Int) + (a.length : Int)) (hsg : sg q s a) (hs0 : 5200 ≤ s) (hs1 : s + a.length ≤ 9000) (ha : isTy a) (hal : b = false → a.length ≤ 40) (h0 : 1 ≤ M.1.length) (hb : q 6 6 = bI b) (hx : b = false → rOb q 28 x) : rM mm_Re_define [.inl ss, .inl ee] q (fun r q' => r = some (.inl ((if b = true ∨ M.2.2.2.2.1.length = 6 ∨ M.2.2.2.2.2 = 120 then (4, M) else (0, x :: M.1.drop 1, M.2.1, M.2.2.1, M.2.2.2.1, M.2.2.2.2.1 ++ [a], M.2.2.2.2.2 + 1) : Int × mS)).1) ∧ Rl q' ((if b = true ∨ M.2.2.2.2.1.length = 6 ∨ M.2.2.2.2.2 = 120 then (4, M) else (0, x :: M.1.drop 1, M.2.1, M.2.2.1, M.2.2.2.1, M.2.2.2.2.1 ++ [a], M.2.2.2.2.2 + 1) : Int × mS)).2) := by
  refine rm rfl (nl rfl) (fun E => ?_)
  have g6 := hg.2.2.2.2.2.1
  have g7 := hg.2.2.2.2.2.2.1
  have g8 := hg.2.2.2.2.2.2.2.1
  have g9 := hg.2.2.2.2.2.2.2.2.1
  have g10 := hg.2.2.2.2.2.2.2.2.2
  have r1 := hR.1
  have r4 : q 6 1 = (M.2.2.1.length : Int) := hR.2.2.2.1
  have r6 : q 6 2 = (M.2.2.2.1.length : Int) := hR.2.2.2.2.2.1
  have r8 : q 6 3 = (M.2.2.2.2.1.length : Int) := hR.2.2.2.2.2.2.2.1
  have r10 : q 6 4 = (M.2.2.2.2.2 : Int) := hR.2.2.2.2.2.2.2.2.2.1
  have hlk := hR.2.2.2.2.2.2.2.2.2.2
  have hb01 : q 6 6 = 0 ∨ q 6 6 = 1 := by rw [hb]; cases b <;> simp [bI]
  show rX E _ 0 [some (.inr (some E.1.length)), some (.inl ss), some (.inl ee), none] [] _ _
  refine rx (xs_aload_n dm_Re_define_0 rfl) ?_
  refine rx (rg (v := .inl (q 6 6)) dm_Re_define_1 lf_Re_50 rfl) ?_
  refine xx_if_ne (tgt := 25) dm_Re_define_4 rfl (by unfold ir; omega) (fun hc => ?_) (fun hc => ?_)
  · change rX E _ 25 _ _ _ _
    have hbt : b = true := by cases b with
      | true => rfl
      | false => rw [hb] at hc; simp [bI] at hc
    refine rx (xs_iconst dm_Re_define_25) ?_
    exact rri dm_Re_define_26 rfl ⟨vi (by rw [if_pos (Or.inl hbt)]), by rw [if_pos (Or.inl hbt)]; exact hR⟩
  · change rX E _ 7 _ _ _ _
    have hbf : b = false := by cases b with
      | false => rfl
      | true => rw [hb] at hc; simp [bI] at hc
    refine rx (xs_aload_n dm_Re_define_7 rfl) ?_
    refine rx (rg (v := .inl (q 6 3)) dm_Re_define_8 lf_Re_103 rfl) ?_
    refine rx (xs_bipush dm_Re_define_11 (by decide)) ?_
    refine xx_icmp_eq (tgt := 25) dm_Re_define_13 rfl (by unfold ir; omega) (by unfold ir; omega) (fun hc2 => ?_) (fun hc2 => ?_)
    · change rX E _ 25 _ _ _ _
      refine rx (xs_iconst dm_Re_define_25) ?_
      exact rri dm_Re_define_26 rfl ⟨vi (by rw [if_pos (Or.inr (Or.inl (by omega)))]), by rw [if_pos (Or.inr (Or.inl (by omega)))]; exact hR⟩
    · change rX E _ 16 _ _ _ _
      refine rx (xs_aload_n dm_Re_define_16 rfl) ?_
      refine rx (rg (v := .inl (q 6 4)) dm_Re_define_17 lf_Re_76 rfl) ?_
      refine rx (xs_bipush dm_Re_define_20 (by decide)) ?_
      refine xx_icmp_ne (tgt := 27) dm_Re_define_22 rfl (by unfold ir; omega) (by unfold ir; omega) (fun hc3 => ?_) (fun hc3 => ?_)
      · change rX E _ 27 _ _ _ _
        have h6 : ¬ M.2.2.2.2.1.length = 6 := by omega
        have h120 : ¬ M.2.2.2.2.2 = 120 := by omega
        have hal' := hal hbf
        have ob28 := hx hbf
        subst hbf
        rw [if_neg (by rw [not_or, not_or]; exact ⟨by decide, h6, h120⟩)]
        have c0 : (u3 q 6 3 (q 6 3 + 1)) 6 3 = ((M.2.2.2.2.1.length + 1 : Nat) : Int) := by rw [u3_eq, r8]; rfl
        refine rx (xs_aload_n dm_Re_define_27 rfl) ?_
        refine rx (xs_dup dm_Re_define_28) ?_
        refine rx (rg (v := .inl (q 6 3)) dm_Re_define_29 lf_Re_103 rfl) ?_
        refine rx (xs_iconst dm_Re_define_32) ?_
        refine rx (xs_iadd dm_Re_define_33) ?_
        refine rx (rp 3 (by decide) dm_Re_define_34 lp_Re_103 (x_ft_i _)) ?_
        refine rx (xs_iload_n dm_Re_define_37 rfl) ?_
        refine rx (xs_istore_n dm_Re_define_38 (by decide)) ?_
        show rX E _ 39 [some (.inr (some E.1.length)), some (.inl ss), some (.inl ee), some (.inl ss)] [] _ _
        refine re_define_l (s := s) (n := a.length) E _ rfl c0 (by omega) hs he (by omega) (by omega) ?_ (a.length + 1) 0 _ _ (by omega) (by omega) (by omega) (cpF_0 _ _ _).symm
        change rX E _ 76 _ _ _ _
        have d3 : (cpF (u3 q 6 3 (q 6 3 + 1)) (4800 + 40 * (M.2.2.2.2.1.length + 1)) s a.length) 6 3 = ((M.2.2.2.2.1.length + 1 : Nat) : Int) := by rw [cpF_out (by omega)]; exact c0
        have g2 : ∀ a' j, ¬ (a' = 0 ∧ 4800 + 40 * (M.2.2.2.2.1.length + 1) ≤ j ∧ j < 4800 + 40 * (M.2.2.2.2.1.length + 1) + 40) → ¬ (a' = 6 ∧ j = 3) → (cpF (u3 q 6 3 (q 6 3 + 1)) (4800 + 40 * (M.2.2.2.2.1.length + 1)) s a.length) a' j = q a' j := fun a' j h1 h2 => by rw [cpF_out (by omega), u3_ne h2]
        have hsgN : sg (cpF (u3 q 6 3 (q 6 3 + 1)) (4800 + 40 * (M.2.2.2.2.1.length + 1)) s a.length) (4800 + 40 * (M.2.2.2.2.1.length + 1)) a := fun i y hi => by
          rw [cpF_in (List.getElem?_eq_some_iff.mp hi).1, u3_ne (by omega)]
          exact hsg i y hi
        generalize cpF (u3 q 6 3 (q 6 3 + 1)) (4800 + 40 * (M.2.2.2.2.1.length + 1)) s a.length = qc at d3 g2 hsgN ⊢
        refine rx (xs_aload_n dm_Re_define_76 rfl) ?_
        refine rx (rg (v := .inr (some (rA E 4))) dm_Re_define_77 lf_Re_22 rfl) ?_
        refine rx (xs_aload_n dm_Re_define_80 rfl) ?_
        refine rx (rg (v := .inl (qc 6 3)) dm_Re_define_81 lf_Re_103 rfl) ?_
        refine rx (xs_iload_n dm_Re_define_84 rfl) ?_
        refine rx (xs_iload_n dm_Re_define_85 rfl) ?_
        refine rx (xs_isub dm_Re_define_86) ?_
        refine rx (rtn 4 (M.2.2.2.2.1.length + 1) (by decide) dm_Re_define_87 (by omega) (by show _ < ((7 : Nat) : Int); omega) (by omega)) ?_
        refine rx (xs_aload_n dm_Re_define_88 rfl) ?_
        refine rx (xs_iconst dm_Re_define_89) ?_
        have g3 : ∀ a' j, ¬ (a' = 0 ∧ 4800 + 40 * (M.2.2.2.2.1.length + 1) ≤ j ∧ j < 4800 + 40 * (M.2.2.2.2.1.length + 1) + 40) → ¬ (a' = 6 ∧ j = 3) → ¬ (a' = 4 ∧ j = M.2.2.2.2.1.length + 1) → (u3 qc 4 (M.2.2.2.2.1.length + 1) (ee - ss)) a' j = q a' j := fun a' j h1 h2 h3 => by rw [u3_ne h3, g2 a' j h1 h2]
        have e3 : (u3 qc 4 (M.2.2.2.2.1.length + 1) (ee - ss)) 6 3 = ((M.2.2.2.2.1.length + 1 : Nat) : Int) := by rw [u3_ne (by omega)]; exact d3
        have e4 : (u3 qc 4 (M.2.2.2.2.1.length + 1) (ee - ss)) 4 (M.2.2.2.2.1.length + 1) = (a.length : Int) := by rw [u3_eq, he, hs]; omega
        have sgN : sg (u3 qc 4 (M.2.2.2.2.1.length + 1) (ee - ss)) (4800 + 40 * (M.2.2.2.2.1.length + 1)) a := sg_mono hsgN (fun j j1 j2 => u3_ne (by omega))
        generalize u3 qc 4 (M.2.2.2.2.1.length + 1) (ee - ss) = qn at g3 e3 e4 sgN ⊢
        have obk : ∀ (o : Nat) (y : oB), o < 30 → rOb q o y → rOb qn o y := fun o y h1 hy => rOb_fr hy (fun a j ht => g3 a j (by unfold tch at ht; omega) (by unfold tch at ht; omega) (by unfold tch at ht; omega))
        have lkn : lok qn := lok_fr hlk (fun j hj => g3 1 j (by omega) (by omega) (by omega))
        have gN : gM (M.1, M.2.1, M.2.2.1, M.2.2.2.1, M.2.2.2.2.1 ++ [a], M.2.2.2.2.2) := by
          obtain ⟨g1, g2', g3', g4, g5, _, _, _, _, _⟩ := hg
          refine ⟨g1, g2', g3', g4, fun y hy => ?_, g6, g7, g8, by simp; omega, g10⟩
          have hy' : y ∈ M.2.2.2.2.1 ++ [a] := hy
          rcases List.mem_append.mp hy' with h | h
          · exact g5 y h
          · rw [List.mem_singleton] at h
            subst h
            exact ⟨ha, hal'⟩
        have RN : Rl qn (M.1, M.2.1, M.2.2.1, M.2.2.2.1, M.2.2.2.2.1 ++ [a], M.2.2.2.2.2) := by
          obtain ⟨s1, s2, s3, s4, s5, s6, s7, s8, s9, s10, s11⟩ := hR
          refine ⟨by rw [g3 _ _ (by omega) (by omega) (by omega)]; exact s1, fun i y hi => ?_, fun j hj => ⟨fun hn => ?_, fun y hy => ?_⟩, by rw [g3 _ _ (by omega) (by omega) (by omega)]; exact s4, fun i y hi => ?_, by rw [g3 _ _ (by omega) (by omega) (by omega)]; exact s6, fun i y hi => ?_, by rw [e3]; simp, fun i c hc9 => ?_, by rw [g3 _ _ (by omega) (by omega) (by omega)]; exact s10, lkn⟩
          · have hil : i < M.1.length := (List.getElem?_eq_some_iff.mp hi).1
            show rOb qn (M.1.length - 1 - i) y
            exact obk _ _ (by omega) (s2 i y hi)
          · rw [g3 _ _ (by omega) (by omega) (by omega)]
            exact (s3 j hj).1 hn
          · exact obk _ _ (by omega) ((s3 j hj).2 y hy)
          · have hil : i < M.2.2.1.length := (List.getElem?_eq_some_iff.mp hi).1
            exact obk _ _ (by omega) (s5 i y hi)
          · have hil : i < M.2.2.2.1.length := (List.getElem?_eq_some_iff.mp hi).1
            exact obk _ _ (by omega) (s7 i y hi)
          · have hc' : (M.2.2.2.2.1 ++ [a])[i]? = some c := hc9
            by_cases hil : i < M.2.2.2.2.1.length
            · rw [List.getElem?_append_left hil] at hc'
              have hcl := (hg.2.2.2.2.1 c (List.mem_of_getElem? hc')).2
              obtain ⟨c1, c2⟩ := s9 i c hc'
              exact ⟨by rw [g3 _ _ (by omega) (by omega) (by omega)]; exact c1, sg_mono c2 (fun j j1 j2 => g3 0 j (by omega) (by omega) (by omega))⟩
            · have hi9 := (List.getElem?_eq_some_iff.mp hc').1
              simp at hi9
              have hie : i = M.2.2.2.2.1.length := by omega
              subst hie
              simp at hc'
              subst hc'
              exact ⟨e4, sgN⟩
        refine rcV (as := [.inl 1]) (rest := []) dm_Re_define_90 lc_Re_done lm_Re_91 li_Re_done (nr rfl rfl) rfl rfl rfl (nl rfl) (re_done (M := (M.1, M.2.1, M.2.2.1, M.2.2.2.1, M.2.2.2.2.1 ++ [a], M.2.2.2.2.2)) (n := 1) (x := x) (b := false) gN RN rfl (by show 1 ≤ M.1.length; omega) (by show M.1.length - 1 < 12; omega) (by rw [g3 _ _ (by omega) (by omega) (by omega)]; exact hb) (fun _ => obk _ _ (by omega) ob28)) ?_
        rintro _ q9 ⟨rfl, hR9⟩
        show rX E _ 93 [some (.inr (some E.1.length)), some (.inl ss), some (.inl ee), some (.inl ee)] [.inl (fi (M.1, M.2.1, M.2.2.1, M.2.2.2.1, M.2.2.2.2.1 ++ [a], M.2.2.2.2.2) 1 x false).1] _ _
        rw [fi_g (M := (M.1, M.2.1, M.2.2.1, M.2.2.2.1, M.2.2.2.2.1 ++ [a], M.2.2.2.2.2)) rfl (by show ¬ M.2.2.2.2.2 = 120; exact h120)] at hR9 ⊢
        exact rri dm_Re_define_93 rfl ⟨rfl, hR9⟩
      · change rX E _ 25 _ _ _ _
        refine rx (xs_iconst dm_Re_define_25) ?_
        exact rri dm_Re_define_26 rfl ⟨vi (by rw [if_pos (Or.inr (Or.inr (by omega)))]), by rw [if_pos (Or.inr (Or.inr (by omega)))]; exact hR⟩
set_option maxHeartbeats 4000000 in
set_option maxRecDepth 100000 in
theorem re_thm1 {q : rS} {M : mS} (hg : gM M) (hR : Rl q M) (hk0 : kd M 0 = 1) : rM mm_Re_theorem [.inl 1] q (fun r q' => r = some (.inl (st_assume M).1) ∧ Rl q' (st_assume M).2) := by
  refine rm rfl (nl rfl) (fun E => ?_)
  have g6 := hg.2.2.2.2.2.1
  have g7 := hg.2.2.2.2.2.2.1
  have g8 := hg.2.2.2.2.2.2.2.1
  have g9 := hg.2.2.2.2.2.2.2.2.1
  have g10 := hg.2.2.2.2.2.2.2.2.2
  have r1 := hR.1
  have r4 : q 6 1 = (M.2.2.1.length : Int) := hR.2.2.2.1
  have r6 : q 6 2 = (M.2.2.2.1.length : Int) := hR.2.2.2.2.2.1
  have r8 : q 6 3 = (M.2.2.2.2.1.length : Int) := hR.2.2.2.2.2.2.2.1
  have r10 : q 6 4 = (M.2.2.2.2.2 : Int) := hR.2.2.2.2.2.2.2.2.2.1
  have hlk := hR.2.2.2.2.2.2.2.2.2.2
  have i0 := (kd_ir hg 0).1
  obtain ⟨x0, hx0, ka0, kb0, kc0⟩ := kd_some (M := M) (i := 0) (by rw [hk0]; decide)
  obtain ⟨wa0, wb0, wc0⟩ := Rl_row hR hx0
  have hlt0 := (List.getElem?_eq_some_iff.mp hx0).1
  have gx0 := gM_top hg hx0
  obtain ⟨⟨a, ht0⟩, hl0, -⟩ := gO_1 gx0 (ka0.symm.trans hk0)
  have hA0 := isTm_tl ht0 x0.2.1.length (by simp) (Nat.le_refl _)
  have hty := tyO_of ht0
  have tya := isTm_ty ht0
  show rX E _ 0 [some (.inr (some E.1.length)), some (.inl 1), none, none, none, none, none] [] _ _
  refine rx (xs_aload_n dm_Re_theorem_0 rfl) ?_
  refine rx (xs_iconst dm_Re_theorem_1) ?_
  refine rcV (as := [.inl 0]) (rest := []) dm_Re_theorem_2 lc_Re_top lm_Re_85 li_Re_top (nr rfl rfl) rfl rfl rfl (nl rfl) (re_top' (i := 0) hg hR rfl (by decide)) ?_
  rintro _ q1 ⟨rfl, hq1⟩
  have hq1 := hq1.symm
  subst hq1
  show rX E _ 5 [some (.inr (some E.1.length)), some (.inl 1), none, none, none, none, none] [.inl (kd M 0)] _ _
  refine rx (xs_iconst dm_Re_theorem_5) ?_
  refine rx (xs_icmp_eq_t (tgt := 11) dm_Re_theorem_6 rfl i0 (by unfold ir; omega) hk0) ?_
  refine rx (xs_iload_n dm_Re_theorem_11 rfl) ?_
  refine rx (xs_if_lt_f (tgt := 20) dm_Re_theorem_12 rfl (by unfold ir; omega) (by decide)) ?_
  refine rx (xs_iload_n dm_Re_theorem_15 rfl) ?_
  refine rx (xs_iconst dm_Re_theorem_16) ?_
  refine rx (xs_icmp_le_t (tgt := 22) dm_Re_theorem_17 rfl (by unfold ir; omega) (by unfold ir; omega) (by decide)) ?_
  refine rx (xs_aload_n dm_Re_theorem_22 rfl) ?_
  refine rx (xs_iconst dm_Re_theorem_23) ?_
  refine rcV (as := [.inl 0]) (rest := []) dm_Re_theorem_24 lc_Re_rowOf lm_Re_94 li_Re_rowOf (nr rfl rfl) rfl rfl rfl (nl rfl) (re_rowOf' hR rfl hx0) ?_
  rintro _ q1 ⟨rfl, hq1⟩
  have hq1 := hq1.symm
  subst hq1
  show rX E _ 27 [some (.inr (some E.1.length)), some (.inl 1), none, none, none, none, none] [.inl ((160 * (M.1.length - 1 - 0) : Nat) : Int)] _ _
  refine rx (xs_istore_n dm_Re_theorem_27 (by decide)) ?_
  show rX E _ 28 [some (.inr (some E.1.length)), some (.inl 1), some (.inl ((160 * (M.1.length - 1 - 0) : Nat) : Int)), none, none, none, none] [] _ _
  refine rx (xs_aload_n dm_Re_theorem_28 rfl) ?_
  refine rx (xs_iconst dm_Re_theorem_29) ?_
  refine rcV (as := [.inl 0]) (rest := []) dm_Re_theorem_30 lc_Re_rowEnd lm_Re_97 li_Re_rowEnd (nr rfl rfl) rfl rfl rfl (nl rfl) (re_rowEnd' hg hR rfl hx0) ?_
  rintro _ q1 ⟨rfl, hq1⟩
  have hq1 := hq1.symm
  subst hq1
  show rX E _ 33 [some (.inr (some E.1.length)), some (.inl 1), some (.inl ((160 * (M.1.length - 1 - 0) : Nat) : Int)), none, none, none, none] [.inl (((160 * (M.1.length - 1 - 0) : Nat) : Int) + (x0.2.1.length : Int))] _ _
  refine rx (xs_istore_n dm_Re_theorem_33 (by decide)) ?_
  show rX E _ 34 [some (.inr (some E.1.length)), some (.inl 1), some (.inl ((160 * (M.1.length - 1 - 0) : Nat) : Int)), some (.inl (((160 * (M.1.length - 1 - 0) : Nat) : Int) + (x0.2.1.length : Int))), none, none, none] [] _ _
  refine rx (xs_aload_n dm_Re_theorem_34 rfl) ?_
  refine rcV (as := []) (rest := []) dm_Re_theorem_35 lc_Re_begin lm_Re_88 li_Re_begin (nr rfl rfl) rfl rfl rfl (nl rfl) (re_begin) ?_
  rintro _ _ ⟨rfl, rfl⟩
  show rX E _ 38 [some (.inr (some E.1.length)), some (.inl 1), some (.inl ((160 * (M.1.length - 1 - 0) : Nat) : Int)), some (.inl (((160 * (M.1.length - 1 - 0) : Nat) : Int) + (x0.2.1.length : Int))), none, none, none] [] _ _
  refine rx (xs_aload_n dm_Re_theorem_38 rfl) ?_
  refine rx (xs_iload_n dm_Re_theorem_39 rfl) ?_
  have w5 := bg_5 q
  have fg := frM_bg q
  refine rcV (as := [.inl ((160 * (M.1.length - 1 - 0) : Nat) : Int)]) (rest := []) dm_Re_theorem_40 lc_Re_typeOf lm_Re_106 li_Re_typeOf (nr rfl rfl) rfl rfl rfl (nl rfl) (re_typeOf (p := 160 * (M.1.length - 1 - 0)) (t := x0.2.1) (a := a) (frM_sg fg wb0 (by omega)) ht0 rfl (by omega) (by omega) (by omega)) ?_
  rintro _ qb ⟨rfl, B, hqb⟩
  show rX E _ 43 [some (.inr (some E.1.length)), some (.inl 1), some (.inl ((160 * (M.1.length - 1 - 0) : Nat) : Int)), some (.inl (((160 * (M.1.length - 1 - 0) : Nat) : Int) + (x0.2.1.length : Int))), none, none, none] [.inl ((bg q) 6 5)] _ _
  rw [w5]
  have b5 : qb 6 5 = ((5200 + a.length : Nat) : Int) := by rw [hqb]; show (emL (bg q) a) 6 5 = _; rw [emL_out, w5]; simp
  have fb : frM q qb := by rw [hqb]; exact frM_tr fg (frM_tr (frM_emL (by omega)) (frM_wb _ B))
  have k28 : qb 2 28 = 2 := by rw [hqb]; show (emL (bg q) a) 2 28 = 2; rw [emL_a (by omega) (by omega)]; exact bg_2 q
  have h28 : hyR qb 28 [] := hy0 (by rw [hqb]; show (emL (bg q) a) 3 28 = 0; rw [emL_a (by omega) (by omega)]; exact bg_3 q)
  have g28 : qb 6 6 = 0 := by rw [hqb]; show (emL (bg q) a) 6 6 = 0; rw [emL_s (by omega)]; exact bg_6 q
  have lkb : lok qb := by rw [hqb]; exact lok_wb (lok_emL (lok_bg hlk))
  have sgA : sg qb 5200 a := by
    rw [hqb]
    intro i y hi
    show (emL (bg q) a) 0 _ = _
    exact emL_sg (p := 5200) (by omega) w5 i y hi
  have hs5 : 5200 ≤ 5200 + a.length := by omega
  have sw0 := frM_sg fb wb0 (by omega)
  clear hqb
  show rX E _ 43 [some (.inr (some E.1.length)), some (.inl 1), some (.inl ((160 * (M.1.length - 1 - 0) : Nat) : Int)), some (.inl (((160 * (M.1.length - 1 - 0) : Nat) : Int) + (x0.2.1.length : Int))), none, none, none] [.inl 5200] _ _
  refine rx (xs_istore dm_Re_theorem_43 (by decide)) ?_
  show rX E _ 45 [some (.inr (some E.1.length)), some (.inl 1), some (.inl ((160 * (M.1.length - 1 - 0) : Nat) : Int)), some (.inl (((160 * (M.1.length - 1 - 0) : Nat) : Int) + (x0.2.1.length : Int))), some (.inl 5200), none, none] [] _ _
  refine rx (xs_aload_n dm_Re_theorem_45 rfl) ?_
  refine rx (rg (v := .inl (qb 6 5)) dm_Re_theorem_46 lf_Re_28 rfl) ?_
  refine rx (xs_istore dm_Re_theorem_49 (by decide)) ?_
  show rX E _ 51 [some (.inr (some E.1.length)), some (.inl 1), some (.inl ((160 * (M.1.length - 1 - 0) : Nat) : Int)), some (.inl (((160 * (M.1.length - 1 - 0) : Nat) : Int) + (x0.2.1.length : Int))), some (.inl 5200), some (.inl (qb 6 5)), none] [] _ _
  refine rx (xs_iload_n dm_Re_theorem_51 rfl) ?_
  refine rx (xs_iconst dm_Re_theorem_52) ?_
  refine rx (xs_icmp_eq_t (tgt := 61) dm_Re_theorem_53 rfl (by unfold ir; omega) (by unfold ir; omega) rfl) ?_
  refine rx (xs_aload_n dm_Re_theorem_61 rfl) ?_
  refine rx (xs_iload dm_Re_theorem_62 rfl) ?_
  refine rx (xs_iload dm_Re_theorem_64 rfl) ?_
  refine rcV (as := [.inl 5200, .inl (qb 6 5)]) (rest := []) dm_Re_theorem_66 lc_Re_isBool lm_Re_133 li_Re_isBool (nr rfl rfl) rfl rfl rfl (nl rfl) (re_isBool sgA tya rfl (by omega) (by omega)) ?_
  rintro _ q1 ⟨rfl, hq1⟩
  have hq1 := hq1.symm
  subst hq1
  show rX E _ 69 [some (.inr (some E.1.length)), some (.inl 1), some (.inl ((160 * (M.1.length - 1 - 0) : Nat) : Int)), some (.inl (((160 * (M.1.length - 1 - 0) : Nat) : Int) + (x0.2.1.length : Int))), some (.inl 5200), some (.inl (qb 6 5)), none] [.inl (if a = [1] then 1 else 0)] _ _
  by_cases hbo : a = [1]
  · rw [if_pos hbo]
    have hst : st_assume M = fi M 1 (2, x0.2.1, [x0.2.1]) false := by rw [st_assume, kb0, hty, ifc_t hbo]
    have htb : isTm [] x0.2.1 [1] := by rw [← hbo]; exact ht0
    have hRb := Rl_fr hg hR fb lkb
    refine rx (xs_if_eq_f (tgt := 82) dm_Re_theorem_69 rfl (by unfold ir; omega) (by decide)) ?_
    refine rx (xs_aload_n dm_Re_theorem_72 rfl) ?_
    refine rx (xs_iload_n dm_Re_theorem_73 rfl) ?_
    refine rx (xs_iload_n dm_Re_theorem_74 rfl) ?_
    refine rx (xs_iload_n dm_Re_theorem_75 rfl) ?_
    refine rcV (as := [.inl 1, .inl ((160 * (M.1.length - 1 - 0) : Nat) : Int), .inl (((160 * (M.1.length - 1 - 0) : Nat) : Int) + (x0.2.1.length : Int))]) (rest := []) dm_Re_theorem_76 lc_Re_claim lm_Re_136 li_Re_claim (nr rfl rfl) rfl rfl rfl (nl rfl) (re_claim1 (s := 5200 + a.length) hg hRb hx0 (ka0.symm.trans hk0) htb hRb (by omega) hs5 (by omega) k28 ⟨h28, g28⟩ rfl rfl) ?_
    rintro _ q9 ⟨rfl, hR9⟩
    show rX E _ 79 [some (.inr (some E.1.length)), some (.inl 1), some (.inl ((160 * (M.1.length - 1 - 0) : Nat) : Int)), some (.inl (((160 * (M.1.length - 1 - 0) : Nat) : Int) + (x0.2.1.length : Int))), some (.inl 5200), some (.inl (qb 6 5)), none] [.inl (fi M 1 (2, x0.2.1, [x0.2.1]) false).1] _ _
    rw [hst]
    refine rx (xs_goto (tgt := 83) dm_Re_theorem_79 rfl) ?_
    exact rri dm_Re_theorem_83 rfl ⟨rfl, hR9⟩
  · rw [if_neg hbo]
    have hst : st_assume M = (2, M) := by rw [st_assume, kb0, hty, ifc_f hbo]
    refine rx (xs_if_eq_t (tgt := 82) dm_Re_theorem_69 rfl (by unfold ir; omega) (by decide)) ?_
    refine rx (xs_iconst dm_Re_theorem_82) ?_
    exact rri dm_Re_theorem_83 rfl ⟨vi (by rw [hst]), by rw [hst]; exact Rl_fr hg hR fb lkb⟩
set_option maxHeartbeats 4000000 in
set_option maxRecDepth 100000 in
theorem re_thm3 {q : rS} {M : mS} (hg : gM M) (hR : Rl q M) (hk0 : kd M 0 = 1) : rM mm_Re_theorem [.inl 3] q (fun r q' => r = some (.inl (st_axiom M).1) ∧ Rl q' (st_axiom M).2) := by
  refine rm rfl (nl rfl) (fun E => ?_)
  have g6 := hg.2.2.2.2.2.1
  have g7 := hg.2.2.2.2.2.2.1
  have g8 := hg.2.2.2.2.2.2.2.1
  have g9 := hg.2.2.2.2.2.2.2.2.1
  have g10 := hg.2.2.2.2.2.2.2.2.2
  have r1 := hR.1
  have r4 : q 6 1 = (M.2.2.1.length : Int) := hR.2.2.2.1
  have r6 : q 6 2 = (M.2.2.2.1.length : Int) := hR.2.2.2.2.2.1
  have r8 : q 6 3 = (M.2.2.2.2.1.length : Int) := hR.2.2.2.2.2.2.2.1
  have r10 : q 6 4 = (M.2.2.2.2.2 : Int) := hR.2.2.2.2.2.2.2.2.2.1
  have hlk := hR.2.2.2.2.2.2.2.2.2.2
  have i0 := (kd_ir hg 0).1
  obtain ⟨x0, hx0, ka0, kb0, kc0⟩ := kd_some (M := M) (i := 0) (by rw [hk0]; decide)
  obtain ⟨wa0, wb0, wc0⟩ := Rl_row hR hx0
  have hlt0 := (List.getElem?_eq_some_iff.mp hx0).1
  have gx0 := gM_top hg hx0
  obtain ⟨⟨a, ht0⟩, hl0, -⟩ := gO_1 gx0 (ka0.symm.trans hk0)
  have hA0 := isTm_tl ht0 x0.2.1.length (by simp) (Nat.le_refl _)
  have hty := tyO_of ht0
  have tya := isTm_ty ht0
  show rX E _ 0 [some (.inr (some E.1.length)), some (.inl 3), none, none, none, none, none] [] _ _
  refine rx (xs_aload_n dm_Re_theorem_0 rfl) ?_
  refine rx (xs_iconst dm_Re_theorem_1) ?_
  refine rcV (as := [.inl 0]) (rest := []) dm_Re_theorem_2 lc_Re_top lm_Re_85 li_Re_top (nr rfl rfl) rfl rfl rfl (nl rfl) (re_top' (i := 0) hg hR rfl (by decide)) ?_
  rintro _ q1 ⟨rfl, hq1⟩
  have hq1 := hq1.symm
  subst hq1
  show rX E _ 5 [some (.inr (some E.1.length)), some (.inl 3), none, none, none, none, none] [.inl (kd M 0)] _ _
  refine rx (xs_iconst dm_Re_theorem_5) ?_
  refine rx (xs_icmp_eq_t (tgt := 11) dm_Re_theorem_6 rfl i0 (by unfold ir; omega) hk0) ?_
  refine rx (xs_iload_n dm_Re_theorem_11 rfl) ?_
  refine rx (xs_if_lt_f (tgt := 20) dm_Re_theorem_12 rfl (by unfold ir; omega) (by decide)) ?_
  refine rx (xs_iload_n dm_Re_theorem_15 rfl) ?_
  refine rx (xs_iconst dm_Re_theorem_16) ?_
  refine rx (xs_icmp_le_t (tgt := 22) dm_Re_theorem_17 rfl (by unfold ir; omega) (by unfold ir; omega) (by decide)) ?_
  refine rx (xs_aload_n dm_Re_theorem_22 rfl) ?_
  refine rx (xs_iconst dm_Re_theorem_23) ?_
  refine rcV (as := [.inl 0]) (rest := []) dm_Re_theorem_24 lc_Re_rowOf lm_Re_94 li_Re_rowOf (nr rfl rfl) rfl rfl rfl (nl rfl) (re_rowOf' hR rfl hx0) ?_
  rintro _ q1 ⟨rfl, hq1⟩
  have hq1 := hq1.symm
  subst hq1
  show rX E _ 27 [some (.inr (some E.1.length)), some (.inl 3), none, none, none, none, none] [.inl ((160 * (M.1.length - 1 - 0) : Nat) : Int)] _ _
  refine rx (xs_istore_n dm_Re_theorem_27 (by decide)) ?_
  show rX E _ 28 [some (.inr (some E.1.length)), some (.inl 3), some (.inl ((160 * (M.1.length - 1 - 0) : Nat) : Int)), none, none, none, none] [] _ _
  refine rx (xs_aload_n dm_Re_theorem_28 rfl) ?_
  refine rx (xs_iconst dm_Re_theorem_29) ?_
  refine rcV (as := [.inl 0]) (rest := []) dm_Re_theorem_30 lc_Re_rowEnd lm_Re_97 li_Re_rowEnd (nr rfl rfl) rfl rfl rfl (nl rfl) (re_rowEnd' hg hR rfl hx0) ?_
  rintro _ q1 ⟨rfl, hq1⟩
  have hq1 := hq1.symm
  subst hq1
  show rX E _ 33 [some (.inr (some E.1.length)), some (.inl 3), some (.inl ((160 * (M.1.length - 1 - 0) : Nat) : Int)), none, none, none, none] [.inl (((160 * (M.1.length - 1 - 0) : Nat) : Int) + (x0.2.1.length : Int))] _ _
  refine rx (xs_istore_n dm_Re_theorem_33 (by decide)) ?_
  show rX E _ 34 [some (.inr (some E.1.length)), some (.inl 3), some (.inl ((160 * (M.1.length - 1 - 0) : Nat) : Int)), some (.inl (((160 * (M.1.length - 1 - 0) : Nat) : Int) + (x0.2.1.length : Int))), none, none, none] [] _ _
  refine rx (xs_aload_n dm_Re_theorem_34 rfl) ?_
  refine rcV (as := []) (rest := []) dm_Re_theorem_35 lc_Re_begin lm_Re_88 li_Re_begin (nr rfl rfl) rfl rfl rfl (nl rfl) (re_begin) ?_
  rintro _ _ ⟨rfl, rfl⟩
  show rX E _ 38 [some (.inr (some E.1.length)), some (.inl 3), some (.inl ((160 * (M.1.length - 1 - 0) : Nat) : Int)), some (.inl (((160 * (M.1.length - 1 - 0) : Nat) : Int) + (x0.2.1.length : Int))), none, none, none] [] _ _
  refine rx (xs_aload_n dm_Re_theorem_38 rfl) ?_
  refine rx (xs_iload_n dm_Re_theorem_39 rfl) ?_
  have w5 := bg_5 q
  have fg := frM_bg q
  refine rcV (as := [.inl ((160 * (M.1.length - 1 - 0) : Nat) : Int)]) (rest := []) dm_Re_theorem_40 lc_Re_typeOf lm_Re_106 li_Re_typeOf (nr rfl rfl) rfl rfl rfl (nl rfl) (re_typeOf (p := 160 * (M.1.length - 1 - 0)) (t := x0.2.1) (a := a) (frM_sg fg wb0 (by omega)) ht0 rfl (by omega) (by omega) (by omega)) ?_
  rintro _ qb ⟨rfl, B, hqb⟩
  show rX E _ 43 [some (.inr (some E.1.length)), some (.inl 3), some (.inl ((160 * (M.1.length - 1 - 0) : Nat) : Int)), some (.inl (((160 * (M.1.length - 1 - 0) : Nat) : Int) + (x0.2.1.length : Int))), none, none, none] [.inl ((bg q) 6 5)] _ _
  rw [w5]
  have b5 : qb 6 5 = ((5200 + a.length : Nat) : Int) := by rw [hqb]; show (emL (bg q) a) 6 5 = _; rw [emL_out, w5]; simp
  have fb : frM q qb := by rw [hqb]; exact frM_tr fg (frM_tr (frM_emL (by omega)) (frM_wb _ B))
  have k28 : qb 2 28 = 2 := by rw [hqb]; show (emL (bg q) a) 2 28 = 2; rw [emL_a (by omega) (by omega)]; exact bg_2 q
  have h28 : hyR qb 28 [] := hy0 (by rw [hqb]; show (emL (bg q) a) 3 28 = 0; rw [emL_a (by omega) (by omega)]; exact bg_3 q)
  have g28 : qb 6 6 = 0 := by rw [hqb]; show (emL (bg q) a) 6 6 = 0; rw [emL_s (by omega)]; exact bg_6 q
  have lkb : lok qb := by rw [hqb]; exact lok_wb (lok_emL (lok_bg hlk))
  have sgA : sg qb 5200 a := by
    rw [hqb]
    intro i y hi
    show (emL (bg q) a) 0 _ = _
    exact emL_sg (p := 5200) (by omega) w5 i y hi
  have hs5 : 5200 ≤ 5200 + a.length := by omega
  have sw0 := frM_sg fb wb0 (by omega)
  clear hqb
  show rX E _ 43 [some (.inr (some E.1.length)), some (.inl 3), some (.inl ((160 * (M.1.length - 1 - 0) : Nat) : Int)), some (.inl (((160 * (M.1.length - 1 - 0) : Nat) : Int) + (x0.2.1.length : Int))), none, none, none] [.inl 5200] _ _
  refine rx (xs_istore dm_Re_theorem_43 (by decide)) ?_
  show rX E _ 45 [some (.inr (some E.1.length)), some (.inl 3), some (.inl ((160 * (M.1.length - 1 - 0) : Nat) : Int)), some (.inl (((160 * (M.1.length - 1 - 0) : Nat) : Int) + (x0.2.1.length : Int))), some (.inl 5200), none, none] [] _ _
  refine rx (xs_aload_n dm_Re_theorem_45 rfl) ?_
  refine rx (rg (v := .inl (qb 6 5)) dm_Re_theorem_46 lf_Re_28 rfl) ?_
  refine rx (xs_istore dm_Re_theorem_49 (by decide)) ?_
  show rX E _ 51 [some (.inr (some E.1.length)), some (.inl 3), some (.inl ((160 * (M.1.length - 1 - 0) : Nat) : Int)), some (.inl (((160 * (M.1.length - 1 - 0) : Nat) : Int) + (x0.2.1.length : Int))), some (.inl 5200), some (.inl (qb 6 5)), none] [] _ _
  refine rx (xs_iload_n dm_Re_theorem_51 rfl) ?_
  refine rx (xs_iconst dm_Re_theorem_52) ?_
  refine rx (xs_icmp_eq_f (tgt := 61) dm_Re_theorem_53 rfl (by unfold ir; omega) (by unfold ir; omega) (by decide)) ?_
  refine rx (xs_iload_n dm_Re_theorem_56 rfl) ?_
  refine rx (xs_iconst dm_Re_theorem_57) ?_
  refine rx (xs_icmp_ne_f (tgt := 84) dm_Re_theorem_58 rfl (by unfold ir; omega) (by unfold ir; omega) (by simp)) ?_
  refine rx (xs_aload_n dm_Re_theorem_61 rfl) ?_
  refine rx (xs_iload dm_Re_theorem_62 rfl) ?_
  refine rx (xs_iload dm_Re_theorem_64 rfl) ?_
  refine rcV (as := [.inl 5200, .inl (qb 6 5)]) (rest := []) dm_Re_theorem_66 lc_Re_isBool lm_Re_133 li_Re_isBool (nr rfl rfl) rfl rfl rfl (nl rfl) (re_isBool sgA tya rfl (by omega) (by omega)) ?_
  rintro _ q1 ⟨rfl, hq1⟩
  have hq1 := hq1.symm
  subst hq1
  show rX E _ 69 [some (.inr (some E.1.length)), some (.inl 3), some (.inl ((160 * (M.1.length - 1 - 0) : Nat) : Int)), some (.inl (((160 * (M.1.length - 1 - 0) : Nat) : Int) + (x0.2.1.length : Int))), some (.inl 5200), some (.inl (qb 6 5)), none] [.inl (if a = [1] then 1 else 0)] _ _
  by_cases hbo : a = [1]
  · rw [if_pos hbo]
    have hst : st_axiom M = (if M.2.2.1.length = 5 ∨ M.2.2.2.2.2 = 120 then (4, M) else (0, (2, x0.2.1, []) :: M.1.drop 1, M.2.1, M.2.2.1 ++ [(2, x0.2.1, [])], M.2.2.2.1, M.2.2.2.2.1, M.2.2.2.2.2 + 1) : Int × mS) := by rw [st_axiom, kb0, hty, ifc_t hbo]
    have htb : isTm [] x0.2.1 [1] := by rw [← hbo]; exact ht0
    have hRb := Rl_fr hg hR fb lkb
    refine rx (xs_if_eq_f (tgt := 82) dm_Re_theorem_69 rfl (by unfold ir; omega) (by decide)) ?_
    refine rx (xs_aload_n dm_Re_theorem_72 rfl) ?_
    refine rx (xs_iload_n dm_Re_theorem_73 rfl) ?_
    refine rx (xs_iload_n dm_Re_theorem_74 rfl) ?_
    refine rx (xs_iload_n dm_Re_theorem_75 rfl) ?_
    refine rcV (as := [.inl 3, .inl ((160 * (M.1.length - 1 - 0) : Nat) : Int), .inl (((160 * (M.1.length - 1 - 0) : Nat) : Int) + (x0.2.1.length : Int))]) (rest := []) dm_Re_theorem_76 lc_Re_claim lm_Re_136 li_Re_claim (nr rfl rfl) rfl rfl rfl (nl rfl) (re_claim3 (s := 5200 + a.length) hg hRb hx0 (ka0.symm.trans hk0) htb hRb (by omega) hs5 (by omega) k28 ⟨h28, g28⟩ rfl rfl) ?_
    rintro _ q9 ⟨rfl, hR9⟩
    show rX E _ 79 [some (.inr (some E.1.length)), some (.inl 3), some (.inl ((160 * (M.1.length - 1 - 0) : Nat) : Int)), some (.inl (((160 * (M.1.length - 1 - 0) : Nat) : Int) + (x0.2.1.length : Int))), some (.inl 5200), some (.inl (qb 6 5)), none] [.inl ((if M.2.2.1.length = 5 ∨ M.2.2.2.2.2 = 120 then (4, M) else (0, (2, x0.2.1, []) :: M.1.drop 1, M.2.1, M.2.2.1 ++ [(2, x0.2.1, [])], M.2.2.2.1, M.2.2.2.2.1, M.2.2.2.2.2 + 1) : Int × mS)).1] _ _
    rw [hst]
    refine rx (xs_goto (tgt := 83) dm_Re_theorem_79 rfl) ?_
    exact rri dm_Re_theorem_83 rfl ⟨rfl, hR9⟩
  · rw [if_neg hbo]
    have hst : st_axiom M = (2, M) := by rw [st_axiom, kb0, hty, ifc_f hbo]
    refine rx (xs_if_eq_t (tgt := 82) dm_Re_theorem_69 rfl (by unfold ir; omega) (by decide)) ?_
    refine rx (xs_iconst dm_Re_theorem_82) ?_
    exact rri dm_Re_theorem_83 rfl ⟨vi (by rw [hst]), by rw [hst]; exact Rl_fr hg hR fb lkb⟩
set_option maxHeartbeats 4000000 in
set_option maxRecDepth 100000 in
theorem re_thm0 {q : rS} {M : mS} (hg : gM M) (hR : Rl q M) (hk0 : kd M 0 = 1) : rM mm_Re_theorem [.inl 0] q (fun r q' => r = some (.inl (st_refl M).1) ∧ Rl q' (st_refl M).2) := by
  refine rm rfl (nl rfl) (fun E => ?_)
  have g6 := hg.2.2.2.2.2.1
  have g7 := hg.2.2.2.2.2.2.1
  have g8 := hg.2.2.2.2.2.2.2.1
  have g9 := hg.2.2.2.2.2.2.2.2.1
  have g10 := hg.2.2.2.2.2.2.2.2.2
  have r1 := hR.1
  have r4 : q 6 1 = (M.2.2.1.length : Int) := hR.2.2.2.1
  have r6 : q 6 2 = (M.2.2.2.1.length : Int) := hR.2.2.2.2.2.1
  have r8 : q 6 3 = (M.2.2.2.2.1.length : Int) := hR.2.2.2.2.2.2.2.1
  have r10 : q 6 4 = (M.2.2.2.2.2 : Int) := hR.2.2.2.2.2.2.2.2.2.1
  have hlk := hR.2.2.2.2.2.2.2.2.2.2
  have i0 := (kd_ir hg 0).1
  obtain ⟨x0, hx0, ka0, kb0, kc0⟩ := kd_some (M := M) (i := 0) (by rw [hk0]; decide)
  obtain ⟨wa0, wb0, wc0⟩ := Rl_row hR hx0
  have hlt0 := (List.getElem?_eq_some_iff.mp hx0).1
  have gx0 := gM_top hg hx0
  obtain ⟨⟨a, ht0⟩, hl0, -⟩ := gO_1 gx0 (ka0.symm.trans hk0)
  have hA0 := isTm_tl ht0 x0.2.1.length (by simp) (Nat.le_refl _)
  have hty := tyO_of ht0
  have tya := isTm_ty ht0
  show rX E _ 0 [some (.inr (some E.1.length)), some (.inl 0), none, none, none, none, none] [] _ _
  refine rx (xs_aload_n dm_Re_theorem_0 rfl) ?_
  refine rx (xs_iconst dm_Re_theorem_1) ?_
  refine rcV (as := [.inl 0]) (rest := []) dm_Re_theorem_2 lc_Re_top lm_Re_85 li_Re_top (nr rfl rfl) rfl rfl rfl (nl rfl) (re_top' (i := 0) hg hR rfl (by decide)) ?_
  rintro _ q1 ⟨rfl, hq1⟩
  have hq1 := hq1.symm
  subst hq1
  show rX E _ 5 [some (.inr (some E.1.length)), some (.inl 0), none, none, none, none, none] [.inl (kd M 0)] _ _
  refine rx (xs_iconst dm_Re_theorem_5) ?_
  refine rx (xs_icmp_eq_t (tgt := 11) dm_Re_theorem_6 rfl i0 (by unfold ir; omega) hk0) ?_
  refine rx (xs_iload_n dm_Re_theorem_11 rfl) ?_
  refine rx (xs_if_lt_f (tgt := 20) dm_Re_theorem_12 rfl (by unfold ir; omega) (by decide)) ?_
  refine rx (xs_iload_n dm_Re_theorem_15 rfl) ?_
  refine rx (xs_iconst dm_Re_theorem_16) ?_
  refine rx (xs_icmp_le_t (tgt := 22) dm_Re_theorem_17 rfl (by unfold ir; omega) (by unfold ir; omega) (by decide)) ?_
  refine rx (xs_aload_n dm_Re_theorem_22 rfl) ?_
  refine rx (xs_iconst dm_Re_theorem_23) ?_
  refine rcV (as := [.inl 0]) (rest := []) dm_Re_theorem_24 lc_Re_rowOf lm_Re_94 li_Re_rowOf (nr rfl rfl) rfl rfl rfl (nl rfl) (re_rowOf' hR rfl hx0) ?_
  rintro _ q1 ⟨rfl, hq1⟩
  have hq1 := hq1.symm
  subst hq1
  show rX E _ 27 [some (.inr (some E.1.length)), some (.inl 0), none, none, none, none, none] [.inl ((160 * (M.1.length - 1 - 0) : Nat) : Int)] _ _
  refine rx (xs_istore_n dm_Re_theorem_27 (by decide)) ?_
  show rX E _ 28 [some (.inr (some E.1.length)), some (.inl 0), some (.inl ((160 * (M.1.length - 1 - 0) : Nat) : Int)), none, none, none, none] [] _ _
  refine rx (xs_aload_n dm_Re_theorem_28 rfl) ?_
  refine rx (xs_iconst dm_Re_theorem_29) ?_
  refine rcV (as := [.inl 0]) (rest := []) dm_Re_theorem_30 lc_Re_rowEnd lm_Re_97 li_Re_rowEnd (nr rfl rfl) rfl rfl rfl (nl rfl) (re_rowEnd' hg hR rfl hx0) ?_
  rintro _ q1 ⟨rfl, hq1⟩
  have hq1 := hq1.symm
  subst hq1
  show rX E _ 33 [some (.inr (some E.1.length)), some (.inl 0), some (.inl ((160 * (M.1.length - 1 - 0) : Nat) : Int)), none, none, none, none] [.inl (((160 * (M.1.length - 1 - 0) : Nat) : Int) + (x0.2.1.length : Int))] _ _
  refine rx (xs_istore_n dm_Re_theorem_33 (by decide)) ?_
  show rX E _ 34 [some (.inr (some E.1.length)), some (.inl 0), some (.inl ((160 * (M.1.length - 1 - 0) : Nat) : Int)), some (.inl (((160 * (M.1.length - 1 - 0) : Nat) : Int) + (x0.2.1.length : Int))), none, none, none] [] _ _
  refine rx (xs_aload_n dm_Re_theorem_34 rfl) ?_
  refine rcV (as := []) (rest := []) dm_Re_theorem_35 lc_Re_begin lm_Re_88 li_Re_begin (nr rfl rfl) rfl rfl rfl (nl rfl) (re_begin) ?_
  rintro _ _ ⟨rfl, rfl⟩
  show rX E _ 38 [some (.inr (some E.1.length)), some (.inl 0), some (.inl ((160 * (M.1.length - 1 - 0) : Nat) : Int)), some (.inl (((160 * (M.1.length - 1 - 0) : Nat) : Int) + (x0.2.1.length : Int))), none, none, none] [] _ _
  refine rx (xs_aload_n dm_Re_theorem_38 rfl) ?_
  refine rx (xs_iload_n dm_Re_theorem_39 rfl) ?_
  have w5 := bg_5 q
  have fg := frM_bg q
  refine rcV (as := [.inl ((160 * (M.1.length - 1 - 0) : Nat) : Int)]) (rest := []) dm_Re_theorem_40 lc_Re_typeOf lm_Re_106 li_Re_typeOf (nr rfl rfl) rfl rfl rfl (nl rfl) (re_typeOf (p := 160 * (M.1.length - 1 - 0)) (t := x0.2.1) (a := a) (frM_sg fg wb0 (by omega)) ht0 rfl (by omega) (by omega) (by omega)) ?_
  rintro _ qb ⟨rfl, B, hqb⟩
  show rX E _ 43 [some (.inr (some E.1.length)), some (.inl 0), some (.inl ((160 * (M.1.length - 1 - 0) : Nat) : Int)), some (.inl (((160 * (M.1.length - 1 - 0) : Nat) : Int) + (x0.2.1.length : Int))), none, none, none] [.inl ((bg q) 6 5)] _ _
  rw [w5]
  have b5 : qb 6 5 = ((5200 + a.length : Nat) : Int) := by rw [hqb]; show (emL (bg q) a) 6 5 = _; rw [emL_out, w5]; simp
  have fb : frM q qb := by rw [hqb]; exact frM_tr fg (frM_tr (frM_emL (by omega)) (frM_wb _ B))
  have k28 : qb 2 28 = 2 := by rw [hqb]; show (emL (bg q) a) 2 28 = 2; rw [emL_a (by omega) (by omega)]; exact bg_2 q
  have h28 : hyR qb 28 [] := hy0 (by rw [hqb]; show (emL (bg q) a) 3 28 = 0; rw [emL_a (by omega) (by omega)]; exact bg_3 q)
  have g28 : qb 6 6 = 0 := by rw [hqb]; show (emL (bg q) a) 6 6 = 0; rw [emL_s (by omega)]; exact bg_6 q
  have lkb : lok qb := by rw [hqb]; exact lok_wb (lok_emL (lok_bg hlk))
  have sgA : sg qb 5200 a := by
    rw [hqb]
    intro i y hi
    show (emL (bg q) a) 0 _ = _
    exact emL_sg (p := 5200) (by omega) w5 i y hi
  have hs5 : 5200 ≤ 5200 + a.length := by omega
  have sw0 := frM_sg fb wb0 (by omega)
  clear hqb
  show rX E _ 43 [some (.inr (some E.1.length)), some (.inl 0), some (.inl ((160 * (M.1.length - 1 - 0) : Nat) : Int)), some (.inl (((160 * (M.1.length - 1 - 0) : Nat) : Int) + (x0.2.1.length : Int))), none, none, none] [.inl 5200] _ _
  refine rx (xs_istore dm_Re_theorem_43 (by decide)) ?_
  show rX E _ 45 [some (.inr (some E.1.length)), some (.inl 0), some (.inl ((160 * (M.1.length - 1 - 0) : Nat) : Int)), some (.inl (((160 * (M.1.length - 1 - 0) : Nat) : Int) + (x0.2.1.length : Int))), some (.inl 5200), none, none] [] _ _
  refine rx (xs_aload_n dm_Re_theorem_45 rfl) ?_
  refine rx (rg (v := .inl (qb 6 5)) dm_Re_theorem_46 lf_Re_28 rfl) ?_
  refine rx (xs_istore dm_Re_theorem_49 (by decide)) ?_
  show rX E _ 51 [some (.inr (some E.1.length)), some (.inl 0), some (.inl ((160 * (M.1.length - 1 - 0) : Nat) : Int)), some (.inl (((160 * (M.1.length - 1 - 0) : Nat) : Int) + (x0.2.1.length : Int))), some (.inl 5200), some (.inl (qb 6 5)), none] [] _ _
  refine rx (xs_iload_n dm_Re_theorem_51 rfl) ?_
  refine rx (xs_iconst dm_Re_theorem_52) ?_
  refine rx (xs_icmp_eq_f (tgt := 61) dm_Re_theorem_53 rfl (by unfold ir; omega) (by unfold ir; omega) (by decide)) ?_
  refine rx (xs_iload_n dm_Re_theorem_56 rfl) ?_
  refine rx (xs_iconst dm_Re_theorem_57) ?_
  refine rx (xs_icmp_ne_t (tgt := 84) dm_Re_theorem_58 rfl (by unfold ir; omega) (by unfold ir; omega) (by decide)) ?_
  refine rx (xs_iload_n dm_Re_theorem_84 rfl) ?_
  refine rx (xs_iconst dm_Re_theorem_85) ?_
  refine rx (xs_icmp_ne_t (tgt := 115) dm_Re_theorem_86 rfl (by unfold ir; omega) (by unfold ir; omega) (by decide)) ?_
  refine rx (xs_iload_n dm_Re_theorem_115 rfl) ?_
  refine rx (xs_iconst dm_Re_theorem_116) ?_
  refine rx (xs_icmp_ne_t (tgt := 135) dm_Re_theorem_117 rfl (by unfold ir; omega) (by unfold ir; omega) (by decide)) ?_
  refine rx (xs_aload_n dm_Re_theorem_135 rfl) ?_
  refine rx (rg (v := .inl (qb 6 5)) dm_Re_theorem_136 lf_Re_28 rfl) ?_
  refine rx (xs_istore dm_Re_theorem_139 (by decide)) ?_
  show rX E _ 141 [some (.inr (some E.1.length)), some (.inl 0), some (.inl ((160 * (M.1.length - 1 - 0) : Nat) : Int)), some (.inl (((160 * (M.1.length - 1 - 0) : Nat) : Int) + (x0.2.1.length : Int))), some (.inl 5200), some (.inl (qb 6 5)), some (.inl (qb 6 5))] [] _ _
  refine rx (xs_aload_n dm_Re_theorem_141 rfl) ?_
  refine rx (xs_iload dm_Re_theorem_142 rfl) ?_
  refine rx (xs_iload dm_Re_theorem_144 rfl) ?_
  have oE := emL_out qb (12 :: 12 :: 11 :: 0 :: a)
  simp only [List.length_cons] at oE
  refine rcV (as := [.inl 5200, .inl (qb 6 5)]) (rest := []) dm_Re_theorem_146 lc_Re_beginEquation lm_Re_143 li_Re_beginEquation (nr rfl rfl) rfl rfl rfl (nl rfl) (re_beginEquation (p := 5200) sgA rfl (by omega) (by omega) (by omega)) ?_
  rintro _ _ ⟨rfl, rfl⟩
  show rX E _ 149 [some (.inr (some E.1.length)), some (.inl 0), some (.inl ((160 * (M.1.length - 1 - 0) : Nat) : Int)), some (.inl (((160 * (M.1.length - 1 - 0) : Nat) : Int) + (x0.2.1.length : Int))), some (.inl 5200), some (.inl (qb 6 5)), some (.inl (qb 6 5))] [] _ _
  have sw1 : sg (emL qb (12 :: 12 :: 11 :: 0 :: a)) _ x0.2.1 := frM_sg (frM_emL (by omega)) sw0 (by omega)
  refine rx (xs_iload_n dm_Re_theorem_149 rfl) ?_
  refine rx (xs_iconst dm_Re_theorem_150) ?_
  refine rx (xs_icmp_ne_t (tgt := 178) dm_Re_theorem_151 rfl (by unfold ir; omega) (by unfold ir; omega) (by decide)) ?_
  refine rx (xs_aload_n dm_Re_theorem_178 rfl) ?_
  refine rx (xs_iload_n dm_Re_theorem_179 rfl) ?_
  refine rx (xs_iload_n dm_Re_theorem_180 rfl) ?_
  have oF := emL_out (emL qb (12 :: 12 :: 11 :: 0 :: a)) x0.2.1
  refine rcV (as := [.inl ((160 * (M.1.length - 1 - 0) : Nat) : Int), .inl (((160 * (M.1.length - 1 - 0) : Nat) : Int) + (x0.2.1.length : Int))]) (rest := []) dm_Re_theorem_181 lc_Re_emitRow lm_Re_43 li_Re_emitRow (nr rfl rfl) rfl rfl rfl (nl rfl) (re_emitRow sw1 rfl rfl (by omega) (by omega)) ?_
  rintro _ _ ⟨rfl, rfl⟩
  show rX E _ 184 [some (.inr (some E.1.length)), some (.inl 0), some (.inl ((160 * (M.1.length - 1 - 0) : Nat) : Int)), some (.inl (((160 * (M.1.length - 1 - 0) : Nat) : Int) + (x0.2.1.length : Int))), some (.inl 5200), some (.inl (qb 6 5)), some (.inl (qb 6 5))] [] _ _
  refine rx (xs_iload_n dm_Re_theorem_184 rfl) ?_
  refine rx (xs_if_ne_f (tgt := 194) dm_Re_theorem_185 rfl (by unfold ir; omega) (by decide)) ?_
  refine rx (xs_aload_n dm_Re_theorem_188 rfl) ?_
  refine rx (xs_iload_n dm_Re_theorem_189 rfl) ?_
  refine rx (xs_iload_n dm_Re_theorem_190 rfl) ?_
  refine rcV (as := [.inl ((160 * (M.1.length - 1 - 0) : Nat) : Int), .inl (((160 * (M.1.length - 1 - 0) : Nat) : Int) + (x0.2.1.length : Int))]) (rest := []) dm_Re_theorem_191 lc_Re_emitRow lm_Re_43 li_Re_emitRow (nr rfl rfl) rfl rfl rfl (nl rfl) (re_emitRow (frM_sg (frM_emL (by omega)) sw1 (by omega)) rfl rfl (by omega) (by omega)) ?_
  rintro _ _ ⟨rfl, rfl⟩
  show rX E _ 194 [some (.inr (some E.1.length)), some (.inl 0), some (.inl ((160 * (M.1.length - 1 - 0) : Nat) : Int)), some (.inl (((160 * (M.1.length - 1 - 0) : Nat) : Int) + (x0.2.1.length : Int))), some (.inl 5200), some (.inl (qb 6 5)), some (.inl (qb 6 5))] [] _ _
  rw [show emL (emL (emL qb (12 :: 12 :: 11 :: 0 :: a)) x0.2.1) x0.2.1 = emL qb (eqn a x0.2.1 x0.2.1) by simp [eqn, emL]]
  refine rx (xs_iload_n dm_Re_theorem_194 rfl) ?_
  refine rx (xs_iconst dm_Re_theorem_195) ?_
  refine rx (xs_icmp_ne_t (tgt := 211) dm_Re_theorem_196 rfl (by unfold ir; omega) (by unfold ir; omega) (by decide)) ?_
  refine rx (xs_aload_n dm_Re_theorem_211 rfl) ?_
  refine rx (xs_iconst dm_Re_theorem_212) ?_
  refine rx (xs_iload dm_Re_theorem_213 rfl) ?_
  have hel := eqn_len a x0.2.1 x0.2.1
  refine rcV (as := [.inl 0, .inl (qb 6 5)]) (rest := []) dm_Re_theorem_215 lc_Re_part lm_Re_66 li_Re_part (nr rfl rfl) rfl rfl rfl (nl rfl) (re_pa (s := 5200 + a.length) (n := (eqn a x0.2.1 x0.2.1).length) (by omega) (by rw [emL_out, b5]) hs5 (by omega)) ?_
  rintro _ _ ⟨rfl, rfl⟩
  show rX E _ 218 [some (.inr (some E.1.length)), some (.inl 0), some (.inl ((160 * (M.1.length - 1 - 0) : Nat) : Int)), some (.inl (((160 * (M.1.length - 1 - 0) : Nat) : Int) + (x0.2.1.length : Int))), some (.inl 5200), some (.inl (qb 6 5)), some (.inl (qb 6 5))] [] _ _
  refine rx (xs_iload_n dm_Re_theorem_218 rfl) ?_
  refine rx (xs_iconst dm_Re_theorem_219) ?_
  refine rx (xs_icmp_ne_t (tgt := 234) dm_Re_theorem_220 rfl (by unfold ir; omega) (by unfold ir; omega) (by decide)) ?_
  refine rx (xs_aload_n dm_Re_theorem_234 rfl) ?_
  refine rx (xs_iconst dm_Re_theorem_235) ?_
  have fall : frM q (emL qb (eqn a x0.2.1 x0.2.1)) := frM_tr fb (frM_emL (by omega))
  have key := pa_ok (q := emL qb (eqn a x0.2.1 x0.2.1)) (s := 5200 + a.length) (l := eqn a x0.2.1 x0.2.1) (k := 2) (hs := []) (emL_sg (by omega) b5) (by rw [emL_a (by omega) (by omega)]; exact k28) (emL_h (by omega) h28) (lok_emL lkb)
  rw [emL_s (by omega), g28] at key
  have fpa : frM q (paF (emL qb (eqn a x0.2.1 x0.2.1)) (5200 + a.length) (eqn a x0.2.1 x0.2.1).length) := frM_tr fall (frM_part (by decide))
  refine rcV (as := [.inl 1]) (rest := []) dm_Re_theorem_236 lc_Re_done lm_Re_91 li_Re_done (nr rfl rfl) rfl rfl rfl (nl rfl) (re_done (n := 1) (x := (2, eqn a x0.2.1 x0.2.1, [])) (b := decide (40 < (eqn a x0.2.1 x0.2.1).length)) hg (Rl_fr hg hR fpa key.2.1) rfl (by omega) (by omega) (by rw [key.2.2]; by_cases hh : 40 < (eqn a x0.2.1 x0.2.1).length <;> simp only [hh, bI] <;> simp) (fun hh => key.1 (by simp only [decide_eq_false_iff_not] at hh; omega))) ?_
  rintro _ q9 ⟨rfl, hR9⟩
  show rX E _ 239 [some (.inr (some E.1.length)), some (.inl 0), some (.inl ((160 * (M.1.length - 1 - 0) : Nat) : Int)), some (.inl (((160 * (M.1.length - 1 - 0) : Nat) : Int) + (x0.2.1.length : Int))), some (.inl 5200), some (.inl (qb 6 5)), some (.inl (qb 6 5))] [.inl (fi M 1 (2, eqn a x0.2.1 x0.2.1, []) (decide (40 < (eqn a x0.2.1 x0.2.1).length))).1] _ _
  rw [show st_refl M = fi M 1 (2, eqn a x0.2.1 x0.2.1, []) (decide (40 < (eqn a x0.2.1 x0.2.1).length)) by rw [st_refl, kb0, hty]]
  exact rri dm_Re_theorem_239 rfl ⟨rfl, hR9⟩
set_option maxHeartbeats 4000000 in
set_option maxRecDepth 100000 in
theorem re_thm2 {q : rS} {M : mS} (hg : gM M) (hR : Rl q M) (hk0 : kd M 0 = 1) : rM mm_Re_theorem [.inl 2] q (fun r q' => r = some (.inl (st_beta M).1) ∧ Rl q' (st_beta M).2) := by
  refine rm rfl (nl rfl) (fun E => ?_)
  have g6 := hg.2.2.2.2.2.1
  have g7 := hg.2.2.2.2.2.2.1
  have g8 := hg.2.2.2.2.2.2.2.1
  have g9 := hg.2.2.2.2.2.2.2.2.1
  have g10 := hg.2.2.2.2.2.2.2.2.2
  have r1 := hR.1
  have r4 : q 6 1 = (M.2.2.1.length : Int) := hR.2.2.2.1
  have r6 : q 6 2 = (M.2.2.2.1.length : Int) := hR.2.2.2.2.2.1
  have r8 : q 6 3 = (M.2.2.2.2.1.length : Int) := hR.2.2.2.2.2.2.2.1
  have r10 : q 6 4 = (M.2.2.2.2.2 : Int) := hR.2.2.2.2.2.2.2.2.2.1
  have hlk := hR.2.2.2.2.2.2.2.2.2.2
  have i0 := (kd_ir hg 0).1
  obtain ⟨x0, hx0, ka0, kb0, kc0⟩ := kd_some (M := M) (i := 0) (by rw [hk0]; decide)
  obtain ⟨wa0, wb0, wc0⟩ := Rl_row hR hx0
  have hlt0 := (List.getElem?_eq_some_iff.mp hx0).1
  have gx0 := gM_top hg hx0
  obtain ⟨⟨a, ht0⟩, hl0, -⟩ := gO_1 gx0 (ka0.symm.trans hk0)
  have hA0 := isTm_tl ht0 x0.2.1.length (by simp) (Nat.le_refl _)
  have hty := tyO_of ht0
  have tya := isTm_ty ht0
  show rX E _ 0 [some (.inr (some E.1.length)), some (.inl 2), none, none, none, none, none] [] _ _
  refine rx (xs_aload_n dm_Re_theorem_0 rfl) ?_
  refine rx (xs_iconst dm_Re_theorem_1) ?_
  refine rcV (as := [.inl 0]) (rest := []) dm_Re_theorem_2 lc_Re_top lm_Re_85 li_Re_top (nr rfl rfl) rfl rfl rfl (nl rfl) (re_top' (i := 0) hg hR rfl (by decide)) ?_
  rintro _ q1 ⟨rfl, hq1⟩
  have hq1 := hq1.symm
  subst hq1
  show rX E _ 5 [some (.inr (some E.1.length)), some (.inl 2), none, none, none, none, none] [.inl (kd M 0)] _ _
  refine rx (xs_iconst dm_Re_theorem_5) ?_
  refine rx (xs_icmp_eq_t (tgt := 11) dm_Re_theorem_6 rfl i0 (by unfold ir; omega) hk0) ?_
  refine rx (xs_iload_n dm_Re_theorem_11 rfl) ?_
  refine rx (xs_if_lt_f (tgt := 20) dm_Re_theorem_12 rfl (by unfold ir; omega) (by decide)) ?_
  refine rx (xs_iload_n dm_Re_theorem_15 rfl) ?_
  refine rx (xs_iconst dm_Re_theorem_16) ?_
  refine rx (xs_icmp_le_t (tgt := 22) dm_Re_theorem_17 rfl (by unfold ir; omega) (by unfold ir; omega) (by decide)) ?_
  refine rx (xs_aload_n dm_Re_theorem_22 rfl) ?_
  refine rx (xs_iconst dm_Re_theorem_23) ?_
  refine rcV (as := [.inl 0]) (rest := []) dm_Re_theorem_24 lc_Re_rowOf lm_Re_94 li_Re_rowOf (nr rfl rfl) rfl rfl rfl (nl rfl) (re_rowOf' hR rfl hx0) ?_
  rintro _ q1 ⟨rfl, hq1⟩
  have hq1 := hq1.symm
  subst hq1
  show rX E _ 27 [some (.inr (some E.1.length)), some (.inl 2), none, none, none, none, none] [.inl ((160 * (M.1.length - 1 - 0) : Nat) : Int)] _ _
  refine rx (xs_istore_n dm_Re_theorem_27 (by decide)) ?_
  show rX E _ 28 [some (.inr (some E.1.length)), some (.inl 2), some (.inl ((160 * (M.1.length - 1 - 0) : Nat) : Int)), none, none, none, none] [] _ _
  refine rx (xs_aload_n dm_Re_theorem_28 rfl) ?_
  refine rx (xs_iconst dm_Re_theorem_29) ?_
  refine rcV (as := [.inl 0]) (rest := []) dm_Re_theorem_30 lc_Re_rowEnd lm_Re_97 li_Re_rowEnd (nr rfl rfl) rfl rfl rfl (nl rfl) (re_rowEnd' hg hR rfl hx0) ?_
  rintro _ q1 ⟨rfl, hq1⟩
  have hq1 := hq1.symm
  subst hq1
  show rX E _ 33 [some (.inr (some E.1.length)), some (.inl 2), some (.inl ((160 * (M.1.length - 1 - 0) : Nat) : Int)), none, none, none, none] [.inl (((160 * (M.1.length - 1 - 0) : Nat) : Int) + (x0.2.1.length : Int))] _ _
  refine rx (xs_istore_n dm_Re_theorem_33 (by decide)) ?_
  show rX E _ 34 [some (.inr (some E.1.length)), some (.inl 2), some (.inl ((160 * (M.1.length - 1 - 0) : Nat) : Int)), some (.inl (((160 * (M.1.length - 1 - 0) : Nat) : Int) + (x0.2.1.length : Int))), none, none, none] [] _ _
  refine rx (xs_aload_n dm_Re_theorem_34 rfl) ?_
  refine rcV (as := []) (rest := []) dm_Re_theorem_35 lc_Re_begin lm_Re_88 li_Re_begin (nr rfl rfl) rfl rfl rfl (nl rfl) (re_begin) ?_
  rintro _ _ ⟨rfl, rfl⟩
  show rX E _ 38 [some (.inr (some E.1.length)), some (.inl 2), some (.inl ((160 * (M.1.length - 1 - 0) : Nat) : Int)), some (.inl (((160 * (M.1.length - 1 - 0) : Nat) : Int) + (x0.2.1.length : Int))), none, none, none] [] _ _
  refine rx (xs_aload_n dm_Re_theorem_38 rfl) ?_
  refine rx (xs_iload_n dm_Re_theorem_39 rfl) ?_
  have w5 := bg_5 q
  have fg := frM_bg q
  refine rcV (as := [.inl ((160 * (M.1.length - 1 - 0) : Nat) : Int)]) (rest := []) dm_Re_theorem_40 lc_Re_typeOf lm_Re_106 li_Re_typeOf (nr rfl rfl) rfl rfl rfl (nl rfl) (re_typeOf (p := 160 * (M.1.length - 1 - 0)) (t := x0.2.1) (a := a) (frM_sg fg wb0 (by omega)) ht0 rfl (by omega) (by omega) (by omega)) ?_
  rintro _ qb ⟨rfl, B, hqb⟩
  show rX E _ 43 [some (.inr (some E.1.length)), some (.inl 2), some (.inl ((160 * (M.1.length - 1 - 0) : Nat) : Int)), some (.inl (((160 * (M.1.length - 1 - 0) : Nat) : Int) + (x0.2.1.length : Int))), none, none, none] [.inl ((bg q) 6 5)] _ _
  rw [w5]
  have b5 : qb 6 5 = ((5200 + a.length : Nat) : Int) := by rw [hqb]; show (emL (bg q) a) 6 5 = _; rw [emL_out, w5]; simp
  have fb : frM q qb := by rw [hqb]; exact frM_tr fg (frM_tr (frM_emL (by omega)) (frM_wb _ B))
  have k28 : qb 2 28 = 2 := by rw [hqb]; show (emL (bg q) a) 2 28 = 2; rw [emL_a (by omega) (by omega)]; exact bg_2 q
  have h28 : hyR qb 28 [] := hy0 (by rw [hqb]; show (emL (bg q) a) 3 28 = 0; rw [emL_a (by omega) (by omega)]; exact bg_3 q)
  have g28 : qb 6 6 = 0 := by rw [hqb]; show (emL (bg q) a) 6 6 = 0; rw [emL_s (by omega)]; exact bg_6 q
  have lkb : lok qb := by rw [hqb]; exact lok_wb (lok_emL (lok_bg hlk))
  have sgA : sg qb 5200 a := by
    rw [hqb]
    intro i y hi
    show (emL (bg q) a) 0 _ = _
    exact emL_sg (p := 5200) (by omega) w5 i y hi
  have hs5 : 5200 ≤ 5200 + a.length := by omega
  have sw0 := frM_sg fb wb0 (by omega)
  clear hqb
  show rX E _ 43 [some (.inr (some E.1.length)), some (.inl 2), some (.inl ((160 * (M.1.length - 1 - 0) : Nat) : Int)), some (.inl (((160 * (M.1.length - 1 - 0) : Nat) : Int) + (x0.2.1.length : Int))), none, none, none] [.inl 5200] _ _
  refine rx (xs_istore dm_Re_theorem_43 (by decide)) ?_
  show rX E _ 45 [some (.inr (some E.1.length)), some (.inl 2), some (.inl ((160 * (M.1.length - 1 - 0) : Nat) : Int)), some (.inl (((160 * (M.1.length - 1 - 0) : Nat) : Int) + (x0.2.1.length : Int))), some (.inl 5200), none, none] [] _ _
  refine rx (xs_aload_n dm_Re_theorem_45 rfl) ?_
  refine rx (rg (v := .inl (qb 6 5)) dm_Re_theorem_46 lf_Re_28 rfl) ?_
  refine rx (xs_istore dm_Re_theorem_49 (by decide)) ?_
  show rX E _ 51 [some (.inr (some E.1.length)), some (.inl 2), some (.inl ((160 * (M.1.length - 1 - 0) : Nat) : Int)), some (.inl (((160 * (M.1.length - 1 - 0) : Nat) : Int) + (x0.2.1.length : Int))), some (.inl 5200), some (.inl (qb 6 5)), none] [] _ _
  refine rx (xs_iload_n dm_Re_theorem_51 rfl) ?_
  refine rx (xs_iconst dm_Re_theorem_52) ?_
  refine rx (xs_icmp_eq_f (tgt := 61) dm_Re_theorem_53 rfl (by unfold ir; omega) (by unfold ir; omega) (by decide)) ?_
  refine rx (xs_iload_n dm_Re_theorem_56 rfl) ?_
  refine rx (xs_iconst dm_Re_theorem_57) ?_
  refine rx (xs_icmp_ne_t (tgt := 84) dm_Re_theorem_58 rfl (by unfold ir; omega) (by unfold ir; omega) (by decide)) ?_
  refine rx (xs_iload_n dm_Re_theorem_84 rfl) ?_
  refine rx (xs_iconst dm_Re_theorem_85) ?_
  refine rx (xs_icmp_ne_f (tgt := 115) dm_Re_theorem_86 rfl (by unfold ir; omega) (by unfold ir; omega) (by simp)) ?_
  obtain ⟨y, l, hyl, hy10⟩ := isTm_hd ht0
  have iy : ir y := (gO_ir gx0).1 y (by rw [hyl]; exact List.mem_cons_self)
  have sy : sg qb (160 * (M.1.length - 1 - 0)) (y :: l) := by have := sw0; rw [hyl] at this; exact this
  have hlen : x0.2.1.length = l.length + 1 := by rw [hyl]; rfl
  have hRb := Rl_fr hg hR fb lkb
  refine rx (xs_aload_n dm_Re_theorem_89 rfl) ?_
  refine rx (rg (v := .inr (some (rA E 0))) dm_Re_theorem_90 lf_Re_7 rfl) ?_
  refine rx (xs_iload_n dm_Re_theorem_93 rfl) ?_
  refine rx (rlv 0 y (by decide) dm_Re_theorem_94 (by omega) (by show _ < ((10000 : Nat) : Int); omega) (by rw [Int.toNat_natCast]; exact sg_hd sy)) ?_
  refine rx (xs_bipush dm_Re_theorem_95 (by decide)) ?_
  refine xx_icmp_ne (tgt := 113) dm_Re_theorem_97 rfl iy (by unfold ir; omega) (fun hc => ?_) (fun hc => ?_)
  · change rX E _ 113 _ _ _ _
    have hst : st_beta M = (2, M) := by
      rw [st_beta, kb0, ifc_f]
      rintro ⟨r, e⟩
      rw [hyl] at e
      simp at e; omega
    refine rx (xs_iconst dm_Re_theorem_113) ?_
    exact rri dm_Re_theorem_114 rfl ⟨vi (by rw [hst]), by rw [hst]; exact hRb⟩
  · change rX E _ 100 _ _ _ _
    have hy12 : y = 12 := by omega
    subst hy12
    obtain ⟨z, l2, hl2, iz⟩ : ∃ z l2, l = z :: l2 ∧ ir z := by
      have hi := (gO_ir gx0).1
      rcases isTm_inv ht0 with ⟨n, _, _, _, e2⟩ | ⟨c, _, _, _, e2⟩ | ⟨s, _, e2, _⟩ | ⟨d, _, _, e2⟩ | ⟨f, x, s, ts, ta, tf, tx, e2⟩ | ⟨s, u, b, _, _, _, e2, _⟩
      · rw [hyl] at e2; simp at e2
      · rw [hyl] at e2; simp at e2
      · rw [hyl] at e2; simp at e2
      · rw [hyl] at e2; simp at e2; omega
      · rw [hyl] at e2
        simp at e2
        obtain ⟨z, r, e3, -⟩ := isTm_hd tf
        exact ⟨z, r ++ x, by rw [e2, e3]; rfl, hi z (by rw [hyl, e2, e3]; simp)⟩
      · rw [hyl] at e2; simp at e2
    subst hl2
    simp only [List.length_cons] at hlen
    refine rx (xs_aload_n dm_Re_theorem_100 rfl) ?_
    refine rx (rg (v := .inr (some (rA E 0))) dm_Re_theorem_101 lf_Re_7 rfl) ?_
    refine rx (xs_iload_n dm_Re_theorem_104 rfl) ?_
    refine rx (xs_iconst dm_Re_theorem_105) ?_
    refine rx (xs_iadd dm_Re_theorem_106) ?_
    refine rx (rlv 0 z (by decide) dm_Re_theorem_107 (by omega) (by show _ < ((10000 : Nat) : Int); omega) (by rw [show (((160 * (M.1.length - 1 - 0) : Nat) : Int) + 1).toNat = 160 * (M.1.length - 1 - 0) + 1 by omega]; exact sg_hd (sg_tl sy))) ?_
    refine rx (xs_bipush dm_Re_theorem_108 (by decide)) ?_
    refine xx_icmp_eq (tgt := 115) dm_Re_theorem_110 rfl iz (by unfold ir; omega) (fun hc2 => ?_) (fun hc2 => ?_)
    · change rX E _ 115 _ _ _ _
      have hz13 : z = 13 := by omega
      subst hz13
      obtain ⟨c, uu, x, hbx⟩ := bx_of ht0 hyl
      have hbx' := hbx
      obtain ⟨e, tc, ⟨b, tu⟩, tx⟩ := hbx
      have hst : st_beta M = fi M 1 (2, eqn a x0.2.1 (betC x uu ([], 1)), []) (decide (40 < (eqn a x0.2.1 (betC x uu ([], 1))).length)) := by
        rw [st_beta, kb0, hty, ifc_t ⟨l2, hyl⟩, bx_eps hbx']
      have elen : x0.2.1.length = 2 + c.length + uu.length + x.length := by rw [e]; simp; omega
      obtain ⟨xh, xt, ex, -⟩ := isTm_hd tx
      have x1 : 1 ≤ x.length := by rw [ex]; simp
      have hbl := betC_len (u := x) (by omega) x1 uu ([], 1)
      have hel := eqn_len a x0.2.1 (betC x uu ([], 1))
      refine rx (xs_iload_n dm_Re_theorem_115 rfl) ?_
      refine rx (xs_iconst dm_Re_theorem_116) ?_
      refine rx (xs_icmp_ne_t (tgt := 135) dm_Re_theorem_117 rfl (by unfold ir; omega) (by unfold ir; omega) (by decide)) ?_
      refine rx (xs_aload_n dm_Re_theorem_135 rfl) ?_
      refine rx (rg (v := .inl (qb 6 5)) dm_Re_theorem_136 lf_Re_28 rfl) ?_
      refine rx (xs_istore dm_Re_theorem_139 (by decide)) ?_
      show rX E _ 141 [some (.inr (some E.1.length)), some (.inl 2), some (.inl ((160 * (M.1.length - 1 - 0) : Nat) : Int)), some (.inl (((160 * (M.1.length - 1 - 0) : Nat) : Int) + (x0.2.1.length : Int))), some (.inl 5200), some (.inl (qb 6 5)), some (.inl (qb 6 5))] [] _ _
      refine rx (xs_aload_n dm_Re_theorem_141 rfl) ?_
      refine rx (xs_iload dm_Re_theorem_142 rfl) ?_
      refine rx (xs_iload dm_Re_theorem_144 rfl) ?_
      have oE := emL_out qb (12 :: 12 :: 11 :: 0 :: a)
      simp only [List.length_cons] at oE
      refine rcV (as := [.inl 5200, .inl (qb 6 5)]) (rest := []) dm_Re_theorem_146 lc_Re_beginEquation lm_Re_143 li_Re_beginEquation (nr rfl rfl) rfl rfl rfl (nl rfl) (re_beginEquation (p := 5200) sgA rfl (by omega) (by omega) (by omega)) ?_
      rintro _ _ ⟨rfl, rfl⟩
      show rX E _ 149 [some (.inr (some E.1.length)), some (.inl 2), some (.inl ((160 * (M.1.length - 1 - 0) : Nat) : Int)), some (.inl (((160 * (M.1.length - 1 - 0) : Nat) : Int) + (x0.2.1.length : Int))), some (.inl 5200), some (.inl (qb 6 5)), some (.inl (qb 6 5))] [] _ _
      have sw1 : sg (emL qb (12 :: 12 :: 11 :: 0 :: a)) _ x0.2.1 := frM_sg (frM_emL (by omega)) sw0 (by omega)
      refine rx (xs_iload_n dm_Re_theorem_149 rfl) ?_
      refine rx (xs_iconst dm_Re_theorem_150) ?_
      refine rx (xs_icmp_ne_t (tgt := 178) dm_Re_theorem_151 rfl (by unfold ir; omega) (by unfold ir; omega) (by decide)) ?_
      refine rx (xs_aload_n dm_Re_theorem_178 rfl) ?_
      refine rx (xs_iload_n dm_Re_theorem_179 rfl) ?_
      refine rx (xs_iload_n dm_Re_theorem_180 rfl) ?_
      have oF := emL_out (emL qb (12 :: 12 :: 11 :: 0 :: a)) x0.2.1
      refine rcV (as := [.inl ((160 * (M.1.length - 1 - 0) : Nat) : Int), .inl (((160 * (M.1.length - 1 - 0) : Nat) : Int) + (x0.2.1.length : Int))]) (rest := []) dm_Re_theorem_181 lc_Re_emitRow lm_Re_43 li_Re_emitRow (nr rfl rfl) rfl rfl rfl (nl rfl) (re_emitRow sw1 rfl rfl (by omega) (by omega)) ?_
      rintro _ _ ⟨rfl, rfl⟩
      show rX E _ 184 [some (.inr (some E.1.length)), some (.inl 2), some (.inl ((160 * (M.1.length - 1 - 0) : Nat) : Int)), some (.inl (((160 * (M.1.length - 1 - 0) : Nat) : Int) + (x0.2.1.length : Int))), some (.inl 5200), some (.inl (qb 6 5)), some (.inl (qb 6 5))] [] _ _
      refine rx (xs_iload_n dm_Re_theorem_184 rfl) ?_
      refine rx (xs_if_ne_t (tgt := 194) dm_Re_theorem_185 rfl (by unfold ir; omega) (by decide)) ?_
      refine rx (xs_iload_n dm_Re_theorem_194 rfl) ?_
      refine rx (xs_iconst dm_Re_theorem_195) ?_
      refine rx (xs_icmp_ne_f (tgt := 211) dm_Re_theorem_196 rfl (by unfold ir; omega) (by unfold ir; omega) (by simp)) ?_
      have sw2 : sg (emL (emL qb (12 :: 12 :: 11 :: 0 :: a)) x0.2.1) _ x0.2.1 := frM_sg (frM_emL (by omega)) sw1 (by omega)
      have sw3 : sg (emL (emL qb (12 :: 12 :: 11 :: 0 :: a)) x0.2.1) (160 * (M.1.length - 1 - 0)) ([12, 13] ++ (c ++ (uu ++ x))) := by rw [show [12, 13] ++ (c ++ (uu ++ x)) = x0.2.1 by rw [e]; simp]; exact sw2
      have t1 := (sg_app.mp sw3).2
      have t2 := (sg_app.mp t1).1
      have t3 := (sg_app.mp t1).2
      have t4 := (sg_app.mp t3).1
      have t5 := (sg_app.mp t3).2
      simp only [List.length_cons, List.length_nil, List.length_append] at t1 t2 t3 t4 t5
      refine rx (xs_aload_n dm_Re_theorem_199 rfl) ?_
      refine rx (xs_aload_n dm_Re_theorem_200 rfl) ?_
      refine rx (xs_iload_n dm_Re_theorem_201 rfl) ?_
      refine rx (xs_iconst dm_Re_theorem_202) ?_
      refine rx (xs_iadd dm_Re_theorem_203) ?_
      refine rcV (as := [.inl (((160 * (M.1.length - 1 - 0) : Nat) : Int) + 2)]) (rest := [.inr (some E.1.length)]) dm_Re_theorem_204 lc_Re_skipType lm_Re_36 li_Re_skipType (nr rfl rfl) rfl rfl rfl (nl rfl) (re_skipType (p := 160 * (M.1.length - 1 - 0) + (0 + 1 + 1)) t2 tc (by omega) (by omega)) ?_
      rintro _ q1 ⟨rfl, hq1⟩
      have hq1 := hq1.symm
      subst hq1
      show rX E _ 207 [some (.inr (some E.1.length)), some (.inl 2), some (.inl ((160 * (M.1.length - 1 - 0) : Nat) : Int)), some (.inl (((160 * (M.1.length - 1 - 0) : Nat) : Int) + (x0.2.1.length : Int))), some (.inl 5200), some (.inl (qb 6 5)), some (.inl (qb 6 5))] [.inl (((160 * (M.1.length - 1 - 0) + (0 + 1 + 1) : Nat) : Int) + (c.length : Int)), .inr (some E.1.length)] _ _
      refine rx (xs_iload_n dm_Re_theorem_207 rfl) ?_
      refine rcV (as := [.inl (((160 * (M.1.length - 1 - 0) + (0 + 1 + 1) : Nat) : Int) + (c.length : Int)), .inl (((160 * (M.1.length - 1 - 0) : Nat) : Int) + (x0.2.1.length : Int))]) (rest := []) dm_Re_theorem_208 lc_Re_reduce lm_Re_146 li_Re_reduce (nr rfl rfl) rfl rfl rfl (nl rfl) (re_reduce (pt := 160 * (M.1.length - 1 - 0) + (0 + 1 + 1) + c.length) t4 t5 tu tx (by omega) (by omega) (by omega) (by omega) (by omega)) ?_
      rintro _ _ ⟨rfl, rfl⟩
      show rX E _ 211 [some (.inr (some E.1.length)), some (.inl 2), some (.inl ((160 * (M.1.length - 1 - 0) : Nat) : Int)), some (.inl (((160 * (M.1.length - 1 - 0) : Nat) : Int) + (x0.2.1.length : Int))), some (.inl 5200), some (.inl (qb 6 5)), some (.inl (qb 6 5))] [] _ _
      rw [show emL (emL (emL qb (12 :: 12 :: 11 :: 0 :: a)) x0.2.1) (betC x uu ([], 1)) = emL qb (eqn a x0.2.1 (betC x uu ([], 1))) by simp [eqn, emL]]
      refine rx (xs_aload_n dm_Re_theorem_211 rfl) ?_
      refine rx (xs_iconst dm_Re_theorem_212) ?_
      refine rx (xs_iload dm_Re_theorem_213 rfl) ?_
      
      refine rcV (as := [.inl 0, .inl (qb 6 5)]) (rest := []) dm_Re_theorem_215 lc_Re_part lm_Re_66 li_Re_part (nr rfl rfl) rfl rfl rfl (nl rfl) (re_pa (s := 5200 + a.length) (n := (eqn a x0.2.1 (betC x uu ([], 1))).length) (by omega) (by rw [emL_out, b5]) hs5 (by omega)) ?_
      rintro _ _ ⟨rfl, rfl⟩
      show rX E _ 218 [some (.inr (some E.1.length)), some (.inl 2), some (.inl ((160 * (M.1.length - 1 - 0) : Nat) : Int)), some (.inl (((160 * (M.1.length - 1 - 0) : Nat) : Int) + (x0.2.1.length : Int))), some (.inl 5200), some (.inl (qb 6 5)), some (.inl (qb 6 5))] [] _ _
      refine rx (xs_iload_n dm_Re_theorem_218 rfl) ?_
      refine rx (xs_iconst dm_Re_theorem_219) ?_
      refine rx (xs_icmp_ne_t (tgt := 234) dm_Re_theorem_220 rfl (by unfold ir; omega) (by unfold ir; omega) (by decide)) ?_
      refine rx (xs_aload_n dm_Re_theorem_234 rfl) ?_
      refine rx (xs_iconst dm_Re_theorem_235) ?_
      have fall : frM q (emL qb (eqn a x0.2.1 (betC x uu ([], 1)))) := frM_tr fb (frM_emL (by omega))
      have key := pa_ok (q := emL qb (eqn a x0.2.1 (betC x uu ([], 1)))) (s := 5200 + a.length) (l := eqn a x0.2.1 (betC x uu ([], 1))) (k := 2) (hs := []) (emL_sg (by omega) b5) (by rw [emL_a (by omega) (by omega)]; exact k28) (emL_h (by omega) h28) (lok_emL lkb)
      rw [emL_s (by omega), g28] at key
      have fpa : frM q (paF (emL qb (eqn a x0.2.1 (betC x uu ([], 1)))) (5200 + a.length) (eqn a x0.2.1 (betC x uu ([], 1))).length) := frM_tr fall (frM_part (by decide))
      refine rcV (as := [.inl 1]) (rest := []) dm_Re_theorem_236 lc_Re_done lm_Re_91 li_Re_done (nr rfl rfl) rfl rfl rfl (nl rfl) (re_done (n := 1) (x := (2, eqn a x0.2.1 (betC x uu ([], 1)), [])) (b := decide (40 < (eqn a x0.2.1 (betC x uu ([], 1))).length)) hg (Rl_fr hg hR fpa key.2.1) rfl (by omega) (by omega) (by rw [key.2.2]; by_cases hh : 40 < (eqn a x0.2.1 (betC x uu ([], 1))).length <;> simp only [hh, bI] <;> simp) (fun hh => key.1 (by simp only [decide_eq_false_iff_not] at hh; omega))) ?_
      rintro _ q9 ⟨rfl, hR9⟩
      show rX E _ 239 [some (.inr (some E.1.length)), some (.inl 2), some (.inl ((160 * (M.1.length - 1 - 0) : Nat) : Int)), some (.inl (((160 * (M.1.length - 1 - 0) : Nat) : Int) + (x0.2.1.length : Int))), some (.inl 5200), some (.inl (qb 6 5)), some (.inl (qb 6 5))] [.inl (fi M 1 (2, eqn a x0.2.1 (betC x uu ([], 1)), []) (decide (40 < (eqn a x0.2.1 (betC x uu ([], 1))).length))).1] _ _
      rw [show st_beta M = fi M 1 (2, eqn a x0.2.1 (betC x uu ([], 1)), []) (decide (40 < (eqn a x0.2.1 (betC x uu ([], 1))).length)) by exact hst]
      exact rri dm_Re_theorem_239 rfl ⟨rfl, hR9⟩
    · change rX E _ 113 _ _ _ _
      have hst : st_beta M = (2, M) := by
        rw [st_beta, kb0, ifc_f]
        rintro ⟨r, e⟩
        rw [hyl] at e
        simp at e; omega
      refine rx (xs_iconst dm_Re_theorem_113) ?_
      exact rri dm_Re_theorem_114 rfl ⟨vi (by rw [hst]), by rw [hst]; exact hRb⟩
set_option maxHeartbeats 4000000 in
set_option maxRecDepth 100000 in
theorem re_thm4 {q : rS} {M : mS} (hg : gM M) (hR : Rl q M) (hk0 : kd M 0 = 1) : rM mm_Re_theorem [.inl 4] q (fun r q' => r = some (.inl (st_define M).1) ∧ Rl q' (st_define M).2) := by
  refine rm rfl (nl rfl) (fun E => ?_)
  have g6 := hg.2.2.2.2.2.1
  have g7 := hg.2.2.2.2.2.2.1
  have g8 := hg.2.2.2.2.2.2.2.1
  have g9 := hg.2.2.2.2.2.2.2.2.1
  have g10 := hg.2.2.2.2.2.2.2.2.2
  have r1 := hR.1
  have r4 : q 6 1 = (M.2.2.1.length : Int) := hR.2.2.2.1
  have r6 : q 6 2 = (M.2.2.2.1.length : Int) := hR.2.2.2.2.2.1
  have r8 : q 6 3 = (M.2.2.2.2.1.length : Int) := hR.2.2.2.2.2.2.2.1
  have r10 : q 6 4 = (M.2.2.2.2.2 : Int) := hR.2.2.2.2.2.2.2.2.2.1
  have hlk := hR.2.2.2.2.2.2.2.2.2.2
  have i0 := (kd_ir hg 0).1
  obtain ⟨x0, hx0, ka0, kb0, kc0⟩ := kd_some (M := M) (i := 0) (by rw [hk0]; decide)
  obtain ⟨wa0, wb0, wc0⟩ := Rl_row hR hx0
  have hlt0 := (List.getElem?_eq_some_iff.mp hx0).1
  have gx0 := gM_top hg hx0
  obtain ⟨⟨a, ht0⟩, hl0, -⟩ := gO_1 gx0 (ka0.symm.trans hk0)
  have hA0 := isTm_tl ht0 x0.2.1.length (by simp) (Nat.le_refl _)
  have hty := tyO_of ht0
  have tya := isTm_ty ht0
  show rX E _ 0 [some (.inr (some E.1.length)), some (.inl 4), none, none, none, none, none] [] _ _
  refine rx (xs_aload_n dm_Re_theorem_0 rfl) ?_
  refine rx (xs_iconst dm_Re_theorem_1) ?_
  refine rcV (as := [.inl 0]) (rest := []) dm_Re_theorem_2 lc_Re_top lm_Re_85 li_Re_top (nr rfl rfl) rfl rfl rfl (nl rfl) (re_top' (i := 0) hg hR rfl (by decide)) ?_
  rintro _ q1 ⟨rfl, hq1⟩
  have hq1 := hq1.symm
  subst hq1
  show rX E _ 5 [some (.inr (some E.1.length)), some (.inl 4), none, none, none, none, none] [.inl (kd M 0)] _ _
  refine rx (xs_iconst dm_Re_theorem_5) ?_
  refine rx (xs_icmp_eq_t (tgt := 11) dm_Re_theorem_6 rfl i0 (by unfold ir; omega) hk0) ?_
  refine rx (xs_iload_n dm_Re_theorem_11 rfl) ?_
  refine rx (xs_if_lt_f (tgt := 20) dm_Re_theorem_12 rfl (by unfold ir; omega) (by decide)) ?_
  refine rx (xs_iload_n dm_Re_theorem_15 rfl) ?_
  refine rx (xs_iconst dm_Re_theorem_16) ?_
  refine rx (xs_icmp_le_t (tgt := 22) dm_Re_theorem_17 rfl (by unfold ir; omega) (by unfold ir; omega) (by decide)) ?_
  refine rx (xs_aload_n dm_Re_theorem_22 rfl) ?_
  refine rx (xs_iconst dm_Re_theorem_23) ?_
  refine rcV (as := [.inl 0]) (rest := []) dm_Re_theorem_24 lc_Re_rowOf lm_Re_94 li_Re_rowOf (nr rfl rfl) rfl rfl rfl (nl rfl) (re_rowOf' hR rfl hx0) ?_
  rintro _ q1 ⟨rfl, hq1⟩
  have hq1 := hq1.symm
  subst hq1
  show rX E _ 27 [some (.inr (some E.1.length)), some (.inl 4), none, none, none, none, none] [.inl ((160 * (M.1.length - 1 - 0) : Nat) : Int)] _ _
  refine rx (xs_istore_n dm_Re_theorem_27 (by decide)) ?_
  show rX E _ 28 [some (.inr (some E.1.length)), some (.inl 4), some (.inl ((160 * (M.1.length - 1 - 0) : Nat) : Int)), none, none, none, none] [] _ _
  refine rx (xs_aload_n dm_Re_theorem_28 rfl) ?_
  refine rx (xs_iconst dm_Re_theorem_29) ?_
  refine rcV (as := [.inl 0]) (rest := []) dm_Re_theorem_30 lc_Re_rowEnd lm_Re_97 li_Re_rowEnd (nr rfl rfl) rfl rfl rfl (nl rfl) (re_rowEnd' hg hR rfl hx0) ?_
  rintro _ q1 ⟨rfl, hq1⟩
  have hq1 := hq1.symm
  subst hq1
  show rX E _ 33 [some (.inr (some E.1.length)), some (.inl 4), some (.inl ((160 * (M.1.length - 1 - 0) : Nat) : Int)), none, none, none, none] [.inl (((160 * (M.1.length - 1 - 0) : Nat) : Int) + (x0.2.1.length : Int))] _ _
  refine rx (xs_istore_n dm_Re_theorem_33 (by decide)) ?_
  show rX E _ 34 [some (.inr (some E.1.length)), some (.inl 4), some (.inl ((160 * (M.1.length - 1 - 0) : Nat) : Int)), some (.inl (((160 * (M.1.length - 1 - 0) : Nat) : Int) + (x0.2.1.length : Int))), none, none, none] [] _ _
  refine rx (xs_aload_n dm_Re_theorem_34 rfl) ?_
  refine rcV (as := []) (rest := []) dm_Re_theorem_35 lc_Re_begin lm_Re_88 li_Re_begin (nr rfl rfl) rfl rfl rfl (nl rfl) (re_begin) ?_
  rintro _ _ ⟨rfl, rfl⟩
  show rX E _ 38 [some (.inr (some E.1.length)), some (.inl 4), some (.inl ((160 * (M.1.length - 1 - 0) : Nat) : Int)), some (.inl (((160 * (M.1.length - 1 - 0) : Nat) : Int) + (x0.2.1.length : Int))), none, none, none] [] _ _
  refine rx (xs_aload_n dm_Re_theorem_38 rfl) ?_
  refine rx (xs_iload_n dm_Re_theorem_39 rfl) ?_
  have w5 := bg_5 q
  have fg := frM_bg q
  refine rcV (as := [.inl ((160 * (M.1.length - 1 - 0) : Nat) : Int)]) (rest := []) dm_Re_theorem_40 lc_Re_typeOf lm_Re_106 li_Re_typeOf (nr rfl rfl) rfl rfl rfl (nl rfl) (re_typeOf (p := 160 * (M.1.length - 1 - 0)) (t := x0.2.1) (a := a) (frM_sg fg wb0 (by omega)) ht0 rfl (by omega) (by omega) (by omega)) ?_
  rintro _ qb ⟨rfl, B, hqb⟩
  show rX E _ 43 [some (.inr (some E.1.length)), some (.inl 4), some (.inl ((160 * (M.1.length - 1 - 0) : Nat) : Int)), some (.inl (((160 * (M.1.length - 1 - 0) : Nat) : Int) + (x0.2.1.length : Int))), none, none, none] [.inl ((bg q) 6 5)] _ _
  rw [w5]
  have b5 : qb 6 5 = ((5200 + a.length : Nat) : Int) := by rw [hqb]; show (emL (bg q) a) 6 5 = _; rw [emL_out, w5]; simp
  have fb : frM q qb := by rw [hqb]; exact frM_tr fg (frM_tr (frM_emL (by omega)) (frM_wb _ B))
  have k28 : qb 2 28 = 2 := by rw [hqb]; show (emL (bg q) a) 2 28 = 2; rw [emL_a (by omega) (by omega)]; exact bg_2 q
  have h28 : hyR qb 28 [] := hy0 (by rw [hqb]; show (emL (bg q) a) 3 28 = 0; rw [emL_a (by omega) (by omega)]; exact bg_3 q)
  have g28 : qb 6 6 = 0 := by rw [hqb]; show (emL (bg q) a) 6 6 = 0; rw [emL_s (by omega)]; exact bg_6 q
  have lkb : lok qb := by rw [hqb]; exact lok_wb (lok_emL (lok_bg hlk))
  have sgA : sg qb 5200 a := by
    rw [hqb]
    intro i y hi
    show (emL (bg q) a) 0 _ = _
    exact emL_sg (p := 5200) (by omega) w5 i y hi
  have hs5 : 5200 ≤ 5200 + a.length := by omega
  have sw0 := frM_sg fb wb0 (by omega)
  clear hqb
  show rX E _ 43 [some (.inr (some E.1.length)), some (.inl 4), some (.inl ((160 * (M.1.length - 1 - 0) : Nat) : Int)), some (.inl (((160 * (M.1.length - 1 - 0) : Nat) : Int) + (x0.2.1.length : Int))), none, none, none] [.inl 5200] _ _
  refine rx (xs_istore dm_Re_theorem_43 (by decide)) ?_
  show rX E _ 45 [some (.inr (some E.1.length)), some (.inl 4), some (.inl ((160 * (M.1.length - 1 - 0) : Nat) : Int)), some (.inl (((160 * (M.1.length - 1 - 0) : Nat) : Int) + (x0.2.1.length : Int))), some (.inl 5200), none, none] [] _ _
  refine rx (xs_aload_n dm_Re_theorem_45 rfl) ?_
  refine rx (rg (v := .inl (qb 6 5)) dm_Re_theorem_46 lf_Re_28 rfl) ?_
  refine rx (xs_istore dm_Re_theorem_49 (by decide)) ?_
  show rX E _ 51 [some (.inr (some E.1.length)), some (.inl 4), some (.inl ((160 * (M.1.length - 1 - 0) : Nat) : Int)), some (.inl (((160 * (M.1.length - 1 - 0) : Nat) : Int) + (x0.2.1.length : Int))), some (.inl 5200), some (.inl (qb 6 5)), none] [] _ _
  refine rx (xs_iload_n dm_Re_theorem_51 rfl) ?_
  refine rx (xs_iconst dm_Re_theorem_52) ?_
  refine rx (xs_icmp_eq_f (tgt := 61) dm_Re_theorem_53 rfl (by unfold ir; omega) (by unfold ir; omega) (by decide)) ?_
  refine rx (xs_iload_n dm_Re_theorem_56 rfl) ?_
  refine rx (xs_iconst dm_Re_theorem_57) ?_
  refine rx (xs_icmp_ne_t (tgt := 84) dm_Re_theorem_58 rfl (by unfold ir; omega) (by unfold ir; omega) (by decide)) ?_
  refine rx (xs_iload_n dm_Re_theorem_84 rfl) ?_
  refine rx (xs_iconst dm_Re_theorem_85) ?_
  refine rx (xs_icmp_ne_t (tgt := 115) dm_Re_theorem_86 rfl (by unfold ir; omega) (by unfold ir; omega) (by decide)) ?_
  refine rx (xs_iload_n dm_Re_theorem_115 rfl) ?_
  refine rx (xs_iconst dm_Re_theorem_116) ?_
  refine rx (xs_icmp_ne_f (tgt := 135) dm_Re_theorem_117 rfl (by unfold ir; omega) (by unfold ir; omega) (by simp)) ?_
  refine rx (xs_aload_n dm_Re_theorem_120 rfl) ?_
  refine rx (xs_iload_n dm_Re_theorem_121 rfl) ?_
  refine rx (xs_iload_n dm_Re_theorem_122 rfl) ?_
  refine rx (xs_iload dm_Re_theorem_123 rfl) ?_
  refine rx (xs_iload dm_Re_theorem_125 rfl) ?_
  by_cases hcl : clC a x0.2.1
  · refine rcV (as := [.inl ((160 * (M.1.length - 1 - 0) : Nat) : Int), .inl (((160 * (M.1.length - 1 - 0) : Nat) : Int) + (x0.2.1.length : Int)), .inl 5200, .inl (qb 6 5)]) (rest := []) dm_Re_theorem_127 lc_Re_closed lm_Re_140 li_Re_closed (nr rfl rfl) rfl rfl rfl (nl rfl) (re_closed (R := 1) (pT := 5200) sw0 sgA ht0 (isTy_ir tya) rfl rfl rfl (by omega) (by omega) (by omega) (fun _ => rfl) (fun h => absurd hcl h)) ?_
    rintro _ q1 ⟨rfl, hq1⟩
    have hq1 := hq1.symm
    subst hq1
    show rX E _ 130 [some (.inr (some E.1.length)), some (.inl 4), some (.inl ((160 * (M.1.length - 1 - 0) : Nat) : Int)), some (.inl (((160 * (M.1.length - 1 - 0) : Nat) : Int) + (x0.2.1.length : Int))), some (.inl 5200), some (.inl (qb 6 5)), none] [.inl 1] _ _
    refine rx (xs_if_ne_t (tgt := 135) dm_Re_theorem_130 rfl (by unfold ir; omega) (by decide)) ?_
    refine rx (xs_aload_n dm_Re_theorem_135 rfl) ?_
    refine rx (rg (v := .inl (qb 6 5)) dm_Re_theorem_136 lf_Re_28 rfl) ?_
    refine rx (xs_istore dm_Re_theorem_139 (by decide)) ?_
    show rX E _ 141 [some (.inr (some E.1.length)), some (.inl 4), some (.inl ((160 * (M.1.length - 1 - 0) : Nat) : Int)), some (.inl (((160 * (M.1.length - 1 - 0) : Nat) : Int) + (x0.2.1.length : Int))), some (.inl 5200), some (.inl (qb 6 5)), some (.inl (qb 6 5))] [] _ _
    refine rx (xs_aload_n dm_Re_theorem_141 rfl) ?_
    refine rx (xs_iload dm_Re_theorem_142 rfl) ?_
    refine rx (xs_iload dm_Re_theorem_144 rfl) ?_
    have oE := emL_out qb (12 :: 12 :: 11 :: 0 :: a)
    simp only [List.length_cons] at oE
    refine rcV (as := [.inl 5200, .inl (qb 6 5)]) (rest := []) dm_Re_theorem_146 lc_Re_beginEquation lm_Re_143 li_Re_beginEquation (nr rfl rfl) rfl rfl rfl (nl rfl) (re_beginEquation (p := 5200) sgA rfl (by omega) (by omega) (by omega)) ?_
    rintro _ _ ⟨rfl, rfl⟩
    show rX E _ 149 [some (.inr (some E.1.length)), some (.inl 4), some (.inl ((160 * (M.1.length - 1 - 0) : Nat) : Int)), some (.inl (((160 * (M.1.length - 1 - 0) : Nat) : Int) + (x0.2.1.length : Int))), some (.inl 5200), some (.inl (qb 6 5)), some (.inl (qb 6 5))] [] _ _
    have sw1 : sg (emL qb (12 :: 12 :: 11 :: 0 :: a)) _ x0.2.1 := frM_sg (frM_emL (by omega)) sw0 (by omega)
    refine rx (xs_iload_n dm_Re_theorem_149 rfl) ?_
    refine rx (xs_iconst dm_Re_theorem_150) ?_
    refine rx (xs_icmp_ne_f (tgt := 178) dm_Re_theorem_151 rfl (by unfold ir; omega) (by unfold ir; omega) (by simp)) ?_
    refine rx (xs_aload_n dm_Re_theorem_154 rfl) ?_
    refine rx (xs_bipush dm_Re_theorem_155 (by decide)) ?_
    have c3 : (emL qb (12 :: 12 :: 11 :: 0 :: a)) 6 3 = (M.2.2.2.2.1.length : Int) := by rw [emL_s (by omega), fb 6 3 (by unfold tch; omega) (by omega) (by omega) (by omega)]; exact r8
    have hst : st_define M = (if decide (40 < (dfl M).length) = true ∨ M.2.2.2.2.1.length = 6 ∨ M.2.2.2.2.2 = 120 then (4, M) else (0, (2, dfl M, []) :: M.1.drop 1, M.2.1, M.2.2.1, M.2.2.2.1, M.2.2.2.2.1 ++ [a], M.2.2.2.2.2 + 1)) := by rw [st_define, kb0, hty, ifc_t hcl]; simp only [decide_eq_true_eq]
    have hdf : dfl M = eqn a (11 :: ((M.2.2.2.2.1.length : Int) + 1) :: a) x0.2.1 := by rw [dfl, kb0, hty]
    have hel := eqn_len a (11 :: ((M.2.2.2.2.1.length : Int) + 1) :: a) x0.2.1
    rw [← hdf] at hel
    simp only [List.length_cons] at hel
    generalize hD : dfl M = D at hst hdf hel
    have oG := em_out (emL qb (12 :: 12 :: 11 :: 0 :: a)) 11
    refine rcV (as := [.inl 11]) (rest := []) dm_Re_theorem_157 lc_Re_emit lm_Re_32 li_Re_emit (nr rfl rfl) rfl rfl rfl (nl rfl) (re_emit (x := 11) (by omega) (by omega)) ?_
    rintro _ _ ⟨rfl, rfl⟩
    show rX E _ 160 [some (.inr (some E.1.length)), some (.inl 4), some (.inl ((160 * (M.1.length - 1 - 0) : Nat) : Int)), some (.inl (((160 * (M.1.length - 1 - 0) : Nat) : Int) + (x0.2.1.length : Int))), some (.inl 5200), some (.inl (qb 6 5)), some (.inl (qb 6 5))] [] _ _
    refine rx (xs_aload_n dm_Re_theorem_160 rfl) ?_
    refine rx (xs_aload_n dm_Re_theorem_161 rfl) ?_
    refine rx (rg (v := .inl ((em (emL qb (12 :: 12 :: 11 :: 0 :: a)) 11) 6 3)) dm_Re_theorem_162 lf_Re_103 rfl) ?_
    refine rx (xs_iconst dm_Re_theorem_165) ?_
    refine rx (xs_iadd dm_Re_theorem_166) ?_
    have c4 : (em (emL qb (12 :: 12 :: 11 :: 0 :: a)) 11) 6 3 = (M.2.2.2.2.1.length : Int) := by rw [show em (emL qb (12 :: 12 :: 11 :: 0 :: a)) 11 = emL (emL qb (12 :: 12 :: 11 :: 0 :: a)) [11] from rfl, emL_s (by omega)]; exact c3
    rw [c4]
    have oH := em_out (em (emL qb (12 :: 12 :: 11 :: 0 :: a)) 11) ((M.2.2.2.2.1.length : Int) + 1)
    refine rcV (as := [.inl ((M.2.2.2.2.1.length : Int) + 1)]) (rest := []) dm_Re_theorem_167 lc_Re_emit lm_Re_32 li_Re_emit (nr rfl rfl) rfl rfl rfl (nl rfl) (re_emit (x := (M.2.2.2.2.1.length : Int) + 1) (by omega) (by omega)) ?_
    rintro _ _ ⟨rfl, rfl⟩
    show rX E _ 170 [some (.inr (some E.1.length)), some (.inl 4), some (.inl ((160 * (M.1.length - 1 - 0) : Nat) : Int)), some (.inl (((160 * (M.1.length - 1 - 0) : Nat) : Int) + (x0.2.1.length : Int))), some (.inl 5200), some (.inl (qb 6 5)), some (.inl (qb 6 5))] [] _ _
    rw [show em (em (emL qb (12 :: 12 :: 11 :: 0 :: a)) 11) ((M.2.2.2.2.1.length : Int) + 1) = emL qb (12 :: 12 :: 11 :: 0 :: (a ++ [11, (M.2.2.2.2.1.length : Int) + 1])) by simp [emL]] at oH ⊢
    show rX E _ 170 [some (.inr (some E.1.length)), some (.inl 4), some (.inl ((160 * (M.1.length - 1 - 0) : Nat) : Int)), some (.inl (((160 * (M.1.length - 1 - 0) : Nat) : Int) + (x0.2.1.length : Int))), some (.inl 5200), some (.inl (qb 6 5)), some (.inl (qb 6 5))] [] _ _
    refine rx (xs_aload_n dm_Re_theorem_170 rfl) ?_
    refine rx (xs_iload dm_Re_theorem_171 rfl) ?_
    refine rx (xs_iload dm_Re_theorem_173 rfl) ?_
    have oI := emL_out (emL qb (12 :: 12 :: 11 :: 0 :: (a ++ [11, (M.2.2.2.2.1.length : Int) + 1]))) a
    refine rcV (as := [.inl 5200, .inl (qb 6 5)]) (rest := []) dm_Re_theorem_175 lc_Re_emitRow lm_Re_43 li_Re_emitRow (nr rfl rfl) rfl rfl rfl (nl rfl) (re_emitRow (p := 5200) (l := a) (sg_mono sgA (fun k k1 k2 => emL_lo (by omega) (by omega))) rfl (by omega) (by omega) (by omega)) ?_
    rintro _ _ ⟨rfl, rfl⟩
    show rX E _ 178 [some (.inr (some E.1.length)), some (.inl 4), some (.inl ((160 * (M.1.length - 1 - 0) : Nat) : Int)), some (.inl (((160 * (M.1.length - 1 - 0) : Nat) : Int) + (x0.2.1.length : Int))), some (.inl 5200), some (.inl (qb 6 5)), some (.inl (qb 6 5))] [] _ _
    refine rx (xs_aload_n dm_Re_theorem_178 rfl) ?_
    refine rx (xs_iload_n dm_Re_theorem_179 rfl) ?_
    refine rx (xs_iload_n dm_Re_theorem_180 rfl) ?_
    have sw2 : sg (emL (emL qb (12 :: 12 :: 11 :: 0 :: (a ++ [11, (M.2.2.2.2.1.length : Int) + 1]))) a) _ x0.2.1 := frM_sg (frM_tr (frM_emL (by omega)) (frM_emL (by omega))) sw0 (by omega)
    refine rcV (as := [.inl ((160 * (M.1.length - 1 - 0) : Nat) : Int), .inl (((160 * (M.1.length - 1 - 0) : Nat) : Int) + (x0.2.1.length : Int))]) (rest := []) dm_Re_theorem_181 lc_Re_emitRow lm_Re_43 li_Re_emitRow (nr rfl rfl) rfl rfl rfl (nl rfl) (re_emitRow sw2 rfl rfl (by omega) (by omega)) ?_
    rintro _ _ ⟨rfl, rfl⟩
    show rX E _ 184 [some (.inr (some E.1.length)), some (.inl 4), some (.inl ((160 * (M.1.length - 1 - 0) : Nat) : Int)), some (.inl (((160 * (M.1.length - 1 - 0) : Nat) : Int) + (x0.2.1.length : Int))), some (.inl 5200), some (.inl (qb 6 5)), some (.inl (qb 6 5))] [] _ _
    rw [show emL (emL (emL qb (12 :: 12 :: 11 :: 0 :: (a ++ [11, (M.2.2.2.2.1.length : Int) + 1]))) a) x0.2.1 = emL qb D by rw [hdf]; simp [eqn, emL]]
    show rX E _ 184 [some (.inr (some E.1.length)), some (.inl 4), some (.inl ((160 * (M.1.length - 1 - 0) : Nat) : Int)), some (.inl (((160 * (M.1.length - 1 - 0) : Nat) : Int) + (x0.2.1.length : Int))), some (.inl 5200), some (.inl (qb 6 5)), some (.inl (qb 6 5))] [] _ _
    refine rx (xs_iload_n dm_Re_theorem_184 rfl) ?_
    refine rx (xs_if_ne_t (tgt := 194) dm_Re_theorem_185 rfl (by unfold ir; omega) (by decide)) ?_
    refine rx (xs_iload_n dm_Re_theorem_194 rfl) ?_
    refine rx (xs_iconst dm_Re_theorem_195) ?_
    refine rx (xs_icmp_ne_t (tgt := 211) dm_Re_theorem_196 rfl (by unfold ir; omega) (by unfold ir; omega) (by decide)) ?_
    refine rx (xs_aload_n dm_Re_theorem_211 rfl) ?_
    refine rx (xs_iconst dm_Re_theorem_212) ?_
    refine rx (xs_iload dm_Re_theorem_213 rfl) ?_
    refine rcV (as := [.inl 0, .inl (qb 6 5)]) (rest := []) dm_Re_theorem_215 lc_Re_part lm_Re_66 li_Re_part (nr rfl rfl) rfl rfl rfl (nl rfl) (re_pa (s := 5200 + a.length) (n := D.length) (by omega) (by rw [emL_out, b5]) hs5 (by omega)) ?_
    rintro _ _ ⟨rfl, rfl⟩
    show rX E _ 218 [some (.inr (some E.1.length)), some (.inl 4), some (.inl ((160 * (M.1.length - 1 - 0) : Nat) : Int)), some (.inl (((160 * (M.1.length - 1 - 0) : Nat) : Int) + (x0.2.1.length : Int))), some (.inl 5200), some (.inl (qb 6 5)), some (.inl (qb 6 5))] [] _ _
    refine rx (xs_iload_n dm_Re_theorem_218 rfl) ?_
    refine rx (xs_iconst dm_Re_theorem_219) ?_
    refine rx (xs_icmp_ne_f (tgt := 234) dm_Re_theorem_220 rfl (by unfold ir; omega) (by unfold ir; omega) (by simp)) ?_
    refine rx (xs_aload_n dm_Re_theorem_223 rfl) ?_
    refine rx (xs_iload dm_Re_theorem_224 rfl) ?_
    refine rx (xs_iload dm_Re_theorem_226 rfl) ?_
    have fall : frM q (emL qb D) := frM_tr fb (frM_emL (by omega))
    have key := pa_ok (q := emL qb D) (s := 5200 + a.length) (l := D) (k := 2) (hs := []) (emL_sg (by omega) b5) (by rw [emL_a (by omega) (by omega)]; exact k28) (emL_h (by omega) h28) (lok_emL lkb)
    rw [emL_s (by omega), g28] at key
    have fpa : frM q (paF (emL qb D) (5200 + a.length) D.length) := frM_tr fall (frM_part (by decide))
    have sgP : sg (paF (emL qb D) (5200 + a.length) D.length) 5200 a := sg_mono sgA (fun k k1 k2 => by rw [pa_fr (by omega) (by omega) (by omega)]; exact emL_lo (by omega) (by omega))
    refine rcV (as := [.inl 5200, .inl (qb 6 5)]) (rest := []) dm_Re_theorem_228 lc_Re_define lm_Re_149 li_Re_define (nr rfl rfl) rfl rfl rfl (nl rfl) (re_define (s := 5200) (a := a) (x := (2, D, [])) (b := decide (40 < D.length)) hg (Rl_fr hg hR fpa key.2.1) rfl (by omega) sgP (by omega) (by omega) tya (fun hh => by simp only [decide_eq_false_iff_not] at hh; omega) (by omega) (by rw [key.2.2]; by_cases hh : 40 < D.length <;> simp only [hh, bI] <;> simp) (fun hh => key.1 (by simp only [decide_eq_false_iff_not] at hh; omega))) ?_
    rintro _ q9 ⟨rfl, hR9⟩
    show rX E _ 231 [some (.inr (some E.1.length)), some (.inl 4), some (.inl ((160 * (M.1.length - 1 - 0) : Nat) : Int)), some (.inl (((160 * (M.1.length - 1 - 0) : Nat) : Int) + (x0.2.1.length : Int))), some (.inl 5200), some (.inl (qb 6 5)), some (.inl (qb 6 5))] [.inl ((if decide (40 < D.length) = true ∨ M.2.2.2.2.1.length = 6 ∨ M.2.2.2.2.2 = 120 then (4, M) else (0, (2, D, []) :: M.1.drop 1, M.2.1, M.2.2.1, M.2.2.2.1, M.2.2.2.2.1 ++ [a], M.2.2.2.2.2 + 1) : Int × mS)).1] _ _
    rw [hst]
    refine rx (xs_goto (tgt := 239) dm_Re_theorem_231 rfl) ?_
    exact rri dm_Re_theorem_239 rfl ⟨rfl, hR9⟩
  · refine rcV (as := [.inl ((160 * (M.1.length - 1 - 0) : Nat) : Int), .inl (((160 * (M.1.length - 1 - 0) : Nat) : Int) + (x0.2.1.length : Int)), .inl 5200, .inl (qb 6 5)]) (rest := []) dm_Re_theorem_127 lc_Re_closed lm_Re_140 li_Re_closed (nr rfl rfl) rfl rfl rfl (nl rfl) (re_closed (R := 0) (pT := 5200) sw0 sgA ht0 (isTy_ir tya) rfl rfl rfl (by omega) (by omega) (by omega) (fun h => absurd h hcl) (fun _ => rfl)) ?_
    rintro _ q1 ⟨rfl, hq1⟩
    have hq1 := hq1.symm
    subst hq1
    show rX E _ 130 [some (.inr (some E.1.length)), some (.inl 4), some (.inl ((160 * (M.1.length - 1 - 0) : Nat) : Int)), some (.inl (((160 * (M.1.length - 1 - 0) : Nat) : Int) + (x0.2.1.length : Int))), some (.inl 5200), some (.inl (qb 6 5)), none] [.inl 0] _ _
    refine rx (xs_if_ne_f (tgt := 135) dm_Re_theorem_130 rfl (by unfold ir; omega) (by decide)) ?_
    refine rx (xs_iconst dm_Re_theorem_133) ?_
    have hst : st_define M = (3, M) := by rw [st_define, kb0, hty, ifc_f hcl]
    exact rri dm_Re_theorem_134 rfl ⟨vi (by rw [hst]), by rw [hst]; exact Rl_fr hg hR fb lkb⟩
set_option maxHeartbeats 4000000 in
set_option maxRecDepth 100000 in
theorem re_theorem {q : rS} {M : mS} {c : Int} (hg : gM M) (hR : Rl q M) (hr : ir c) : rM mm_Re_theorem [.inl c] q (fun r q' => r = some (.inl (st_theorem M c).1) ∧ Rl q' (st_theorem M c).2) := by

  by_cases hk : kd M 0 = 1
  · by_cases h0 : c = 0
    · subst h0; rw [show st_theorem M 0 = st_refl M by unfold st_theorem; rw [if_neg (fun h => h hk), if_pos rfl]]; exact re_thm0 hg hR hk
    · by_cases h1 : c = 1
      · subst h1; rw [show st_theorem M 1 = st_assume M by unfold st_theorem; rw [if_neg (fun h => h hk), if_neg (by decide), if_pos rfl]]; exact re_thm1 hg hR hk
      · by_cases h2 : c = 2
        · subst h2; rw [show st_theorem M 2 = st_beta M by unfold st_theorem; rw [if_neg (fun h => h hk), if_neg (by decide), if_neg (by decide), if_pos rfl]]; exact re_thm2 hg hR hk
        · by_cases h3 : c = 3
          · subst h3; rw [show st_theorem M 3 = st_axiom M by unfold st_theorem; rw [if_neg (fun h => h hk), if_neg (by decide), if_neg (by decide), if_neg (by decide), if_pos rfl]]; exact re_thm3 hg hR hk
          · by_cases h4 : c = 4
            · subst h4; rw [show st_theorem M 4 = st_define M by unfold st_theorem; rw [if_neg (fun h => h hk), if_neg (by decide), if_neg (by decide), if_neg (by decide), if_neg (by decide), if_pos rfl]]; exact re_thm4 hg hR hk
            · rw [show st_theorem M c = (2, M) by unfold st_theorem; rw [if_neg (fun h => h hk), if_neg h0, if_neg h1, if_neg h2, if_neg h3, if_neg h4]]
              refine rm rfl (nl rfl) (fun E => ?_)
              have i0 := (kd_ir hg 0).1
              show rX E _ 0 [some (.inr (some E.1.length)), some (.inl c), none, none, none, none, none] [] _ _
              refine rx (xs_aload_n dm_Re_theorem_0 rfl) ?_
              refine rx (xs_iconst dm_Re_theorem_1) ?_
              refine rcV (as := [.inl 0]) (rest := []) dm_Re_theorem_2 lc_Re_top lm_Re_85 li_Re_top (nr rfl rfl) rfl rfl rfl (nl rfl) (re_top' (i := 0) hg hR rfl (by decide)) ?_
              rintro _ q1 ⟨rfl, hq1⟩
              have hq1 := hq1.symm
              subst hq1
              show rX E _ 5 [some (.inr (some E.1.length)), some (.inl c), none, none, none, none, none] [.inl (kd M 0)] _ _
              refine rx (xs_iconst dm_Re_theorem_5) ?_
              refine rx (xs_icmp_eq_t (tgt := 11) dm_Re_theorem_6 rfl i0 (by unfold ir; omega) hk) ?_
              refine rx (xs_iload_n dm_Re_theorem_11 rfl) ?_
              refine xx_if_lt (tgt := 20) dm_Re_theorem_12 rfl hr (fun hc => ?_) (fun hc => ?_)
              · change rX E _ 20 _ _ _ _
                refine rx (xs_iconst dm_Re_theorem_20) ?_
                exact rri dm_Re_theorem_21 rfl ⟨rfl, hR⟩
              · change rX E _ 15 _ _ _ _
                refine rx (xs_iload_n dm_Re_theorem_15 rfl) ?_
                refine rx (xs_iconst dm_Re_theorem_16) ?_
                refine rx (xs_icmp_le_f (tgt := 22) dm_Re_theorem_17 rfl hr (by unfold ir; omega) (by omega)) ?_
                refine rx (xs_iconst dm_Re_theorem_20) ?_
                exact rri dm_Re_theorem_21 rfl ⟨rfl, hR⟩
  · rw [show st_theorem M c = (1, M) by unfold st_theorem; rw [if_pos hk]]
    refine rm rfl (nl rfl) (fun E => ?_)
    have i0 := (kd_ir hg 0).1
    show rX E _ 0 [some (.inr (some E.1.length)), some (.inl c), none, none, none, none, none] [] _ _
    refine rx (xs_aload_n dm_Re_theorem_0 rfl) ?_
    refine rx (xs_iconst dm_Re_theorem_1) ?_
    refine rcV (as := [.inl 0]) (rest := []) dm_Re_theorem_2 lc_Re_top lm_Re_85 li_Re_top (nr rfl rfl) rfl rfl rfl (nl rfl) (re_top' (i := 0) hg hR rfl (by decide)) ?_
    rintro _ q1 ⟨rfl, hq1⟩
    have hq1 := hq1.symm
    subst hq1
    show rX E _ 5 [some (.inr (some E.1.length)), some (.inl c), none, none, none, none, none] [.inl (kd M 0)] _ _
    refine rx (xs_iconst dm_Re_theorem_5) ?_
    refine rx (xs_icmp_eq_f (tgt := 11) dm_Re_theorem_6 rfl i0 (by unfold ir; omega) hk) ?_
    refine rx (xs_iconst dm_Re_theorem_9) ?_
    exact rri dm_Re_theorem_10 rfl ⟨rfl, hR⟩
