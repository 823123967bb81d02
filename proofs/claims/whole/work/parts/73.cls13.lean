/-! hypotheses: one more -/
def hyF (h : xH) (a ra : Nat) (q : List (Option Nat)) (hs : List (List Int)) : Prop := h.1[a]? = some (.inr (.inr (2, [.inr (some ra), .inl (hs.length : Int)]))) ∧ h.1[ra]? = some (.inr (.inl (0, q))) ∧ q.length = 6 ∧ hs.length ≤ 6 ∧ ∀ (i : Nat) (l : List Int), hs[i]? = some l → ∃ b, q[i]? = some (some b) ∧ rwA h b l
abbrev pH (a ra : Nat) : Nat → Prop := fun i => i = a ∨ i = ra
theorem rwA_h {C S a ra b n : Nat} {h hf : xH} {q : List (Option Nat)} {fs : List xV} {l : List Int} (hr : rwA h b l) (hg : gr (pH a ra) C S h hf) (ha : h.1[a]? = some (.inr (.inr (2, fs)))) (hra : h.1[ra]? = some (.inr (.inl (n, q)))) : rwA hf b l := rwA_gr hr hg (fun i c _ hc hp => by
  rcases hp with e | e
  · rw [e, ha] at hc; exact Or.inr ⟨fs, (Option.some.inj hc).symm⟩
  · rw [e, hra] at hc; exact Or.inl ⟨(n, q), (Option.some.inj hc).symm⟩)
/-- how many come before -/
def plc (l : List Int) : List (List Int) → Nat
  | [] => 0
  | h :: hs => if cm h l = -1 then plc l hs + 1 else 0
theorem plc_le (l : List Int) : ∀ hs, plc l hs ≤ hs.length := by
  intro hs
  induction hs with
  | nil => simp [plc]
  | cons h hs ih => unfold plc; split <;> simp <;> omega
noncomputable def insC (l : List Int) (hs : List (List Int)) : List (List Int) := if 6 ≤ hs.length ∨ hs[plc l hs]? = some l then hs else insA l hs (plc l hs)
set_option maxHeartbeats 4000000 in
set_option maxRecDepth 100000 in
theorem hy_shift_l {a ra c p n : Nat} {pp nn : Int} {q : List (Option Nat)} {Q : Option xV → xH → Prop} (hpp : pp = p) (hq : q.length = 6) (hn : n < 6) {h0 : xH} (hrow : ∀ j, j < n → ∃ b fs, q[j]? = some (some b) ∧ h0.1[b]? = some (.inr (.inr (4, fs))) ∧ ¬ b = a ∧ ¬ b = ra) : ∀ (m : Nat) (ii : Int) (h : xH) (q1 : List (Option Nat)), ii = ((p + m : Nat) : Int) → p + m ≤ n → h.1[a]? = some (.inr (.inr (2, [.inr (some ra), .inl nn]))) → h.1[ra]? = some (.inr (.inl (0, q1))) → q1.length = 6 → (∀ j, j ≤ p + m → q1[j]? = q[j]?) → (∀ j, p + m < j → j ≤ n → q1[j]? = q[j - 1]?) → gr (pH a ra) 0 0 h0 h → (∀ (h' : xH) (q2 : List (Option Nat)) (o3 : Option xV), h'.1[a]? = some (.inr (.inr (2, [.inr (some ra), .inl nn]))) → h'.1[ra]? = some (.inr (.inl (0, q2))) → q2.length = 6 → (∀ j, j ≤ p → q2[j]? = q[j]?) → (∀ j, p < j → j ≤ n → q2[j]? = q[j - 1]?) → gr (pH a ra) 0 0 h0 h' → x_X mm_Hy_add 93 [some (.inr (some a)), some (.inr (some c)), some (.inl pp), o3] [] h' Q) → x_X mm_Hy_add 68 [some (.inr (some a)), some (.inr (some c)), some (.inl pp), some (.inl ii)] [] h Q := by
  intro m
  induction m with
  | zero =>
    intro ii h q1 hii hle c1 c2 hl g1 g2 hg kk
    refine xx (xs_iload_n dm_Hy_add_68 rfl) ?_
    refine xx (xs_iload_n dm_Hy_add_69 rfl) ?_
    refine xx (xs_icmp_le_t (tgt := 93) dm_Hy_add_70 rfl (by unfold ir; omega) (by unfold ir; omega) (by omega)) ?_
    exact kk h q1 _ c1 c2 hl g1 g2 hg
  | succ m ih =>
    intro ii h q1 hii hle c1 c2 hl g1 g2 hg kk
    obtain ⟨b, fs, hb1, hb2, hb3, hb4⟩ := hrow (p + m) (by omega)
    have hbh : h.1[b]? = some (.inr (.inr (4, fs))) := hg.2 b _ (fun e => by rcases e with e | e; exact hb3 e; exact hb4 e) hb2
    have hqb : q1[p + m]? = some (some b) := by rw [g1 _ (by omega)]; exact hb1
    refine xx (xs_iload_n dm_Hy_add_68 rfl) ?_
    refine xx (xs_iload_n dm_Hy_add_69 rfl) ?_
    refine xx (xs_icmp_le_f (tgt := 93) dm_Hy_add_70 rfl (by unfold ir; omega) (by unfold ir; omega) (by omega)) ?_
    refine xx (xs_aload_n dm_Hy_add_73 rfl) ?_
    refine xx (xs_getf dm_Hy_add_74 lf_Hy_11 c1 rfl) ?_
    refine xx (xs_iload_n dm_Hy_add_77 rfl) ?_
    refine xx (xs_aload_n dm_Hy_add_78 rfl) ?_
    refine xx (xs_getf dm_Hy_add_79 lf_Hy_11 c1 rfl) ?_
    refine xx (xs_iload_n dm_Hy_add_82 rfl) ?_
    refine xx (xs_iconst dm_Hy_add_83) ?_
    refine xx (xs_isub dm_Hy_add_84) ?_
    refine xx (xs_aald (x := (some b)) dm_Hy_add_85 (by decide) c2 (by omega) (by rw [show (ii - 1).toNat = p + m by omega]; exact hqb) (by omega)) ?_
    refine xx (xs_aast dm_Hy_add_86 (by decide) c2 hbh rfl (by omega) (by omega) (by omega)) ?_
    obtain ⟨h3, hh3⟩ : ∃ hX : xH, hX = (h.1.set ra (.inr (.inl (0, q1.set ii.toNat (some b)))), h.2) := ⟨_, rfl⟩
    show x_X _ 87 [some (.inr (some a)), some (.inr (some c)), some (.inl pp), some (.inl ii)] [] (h.1.set ra (.inr (.inl (0, q1.set ii.toNat (some b)))), h.2) _
    rw [← hh3]
    have gs : gr (fun i => i = ra) 0 0 h h3 := hh3 ▸ gr_set
    have c1' : h3.1[a]? = some (.inr (.inr (2, [.inr (some ra), .inl nn]))) := by rw [hh3]; exact set_kp c1 c2 (by simp)
    have c2' : h3.1[ra]? = some (.inr (.inl (0, q1.set ii.toNat (some b)))) := by rw [hh3]; exact set_at c2
    have hin : ii.toNat = p + (m + 1) := by omega
    refine xx (xs_iinc dm_Hy_add_87 rfl (by decide)) ?_
    show x_X _ 90 [some (.inr (some a)), some (.inr (some c)), some (.inl pp), some (.inl (ii + (-1)))] [] _ _
    refine xx (xs_goto (tgt := 68) dm_Hy_add_90 rfl) ?_
    refine ih _ h3 _ (by omega) (by omega) c1' c2' (by simp; exact hl) (fun j hj => ?_) (fun j hj1 hj2 => ?_) (gr_tr hg gs (fun i _ e => Or.inr e) (Nat.le_refl _) (Nat.le_refl _)) kk
    · rw [List.getElem?_set_ne (by omega)]; exact g1 j (by omega)
    · by_cases hj : j = p + (m + 1)
      · rw [hj, hin, List.getElem?_set_self (by omega), show p + (m + 1) - 1 = p + m by omega]; exact hb1.symm
      · rw [List.getElem?_set_ne (by omega)]; exact g2 j (by omega) hj2
set_option maxHeartbeats 4000000 in
set_option maxRecDepth 100000 in
theorem hy_place_l {h : xH} {a ra c : Nat} {q : List (Option Nat)} {hs : List (List Int)} {l : List Int} {o3 : Option xV} {Q : Option xV → xH → Prop} (hy : hyF h a ra q hs) (hr : rwA h c l) (hn : ∀ y ∈ hs, nn1 y) (kq : x_X mm_Hy_add 29 [some (.inr (some a)), some (.inr (some c)), some (.inl (plc l hs : Int)), o3] [] h Q) : ∀ (N k : Nat) (kk : Int), hs.length - k < N → k ≤ hs.length → kk = k → plc l hs = k + plc l (hs.drop k) → x_X mm_Hy_add 2 [some (.inr (some a)), some (.inr (some c)), some (.inl kk), o3] [] h Q := by
  intro N
  induction N with
  | zero => intro k kk hN; omega
  | succ N ih =>
    intro k kk hN hk hkk hpl
    obtain ⟨c1, c2, y5, y6, y7⟩ := hy
    by_cases hkn : k = hs.length
    · have e0 : kk = (plc l hs : Int) := by rw [hpl, hkn, List.drop_length]; simp [plc]; omega
      rw [← e0] at kq
      refine xx (xs_iload_n dm_Hy_add_2 rfl) ?_
      refine xx (xs_aload_n dm_Hy_add_3 rfl) ?_
      refine xx (xs_getf dm_Hy_add_4 lf_Hy_17 c1 rfl) ?_
      refine xx (xs_icmp_ge_t (tgt := 29) dm_Hy_add_7 rfl (by unfold ir; omega) (by unfold ir; omega) (by omega)) ?_
      exact kq
    · obtain ⟨v, hv⟩ : ∃ v, hs[k]? = some v := ⟨_, List.getElem?_eq_getElem (by omega)⟩
      have hdl : hs.drop k = v :: hs.drop (k + 1) := by
        rw [List.drop_eq_getElem_cons (by omega)]
        congr 1
        exact (List.getElem?_eq_some_iff.mp hv).2
      obtain ⟨b, b1, b2⟩ := y7 k v hv
      have b3 := b2
      obtain ⟨ra9, ri9, s9, f9, A9, rs9, rc9, -⟩ := b2
      refine xx (xs_iload_n dm_Hy_add_2 rfl) ?_
      refine xx (xs_aload_n dm_Hy_add_3 rfl) ?_
      refine xx (xs_getf dm_Hy_add_4 lf_Hy_17 c1 rfl) ?_
      refine xx (xs_icmp_ge_f (tgt := 29) dm_Hy_add_7 rfl (by unfold ir; omega) (by unfold ir; omega) (by omega)) ?_
      refine xx (xs_aload_n dm_Hy_add_10 rfl) ?_
      refine xx (xs_getf dm_Hy_add_11 lf_Hy_11 c1 rfl) ?_
      refine xx (xs_iload_n dm_Hy_add_14 rfl) ?_
      refine xx (xs_aald (x := (some b)) dm_Hy_add_15 (by decide) c2 (by omega) (by rw [show kk.toNat = k by omega]; exact b1) (by omega)) ?_
      refine xx (xs_aload_n dm_Hy_add_16 rfl) ?_
      refine xcV (as := [.inr (some c)]) (rest := []) dm_Hy_add_17 lc_Ro_comesBefore lm_Hy_21 li_Ro_comesBefore (nr rfl rfl) rfl rfl rc9 rfl (nl rfl) (ro_comesBefore b3 hr (hn v (List.mem_of_getElem? hv))) ?_
      rintro _ hx9 ⟨rfl, hhx9⟩
      have hhx9 := hhx9.symm
      subst hhx9
      show x_X _ 20 [some (.inr (some a)), some (.inr (some c)), some (.inl kk), o3] [.inl (if cm v l = -1 then 1 else 0)] _ _
      by_cases hc : cm v l = -1
      · rw [if_pos hc]
        refine xx (xs_if_eq_f (tgt := 29) dm_Hy_add_20 rfl (by unfold ir; omega) (by decide)) ?_
        refine xx (xs_iinc dm_Hy_add_23 rfl (by decide)) ?_
        show x_X _ 26 [some (.inr (some a)), some (.inr (some c)), some (.inl (kk + 1)), o3] [] _ _
        refine xx (xs_goto (tgt := 2) dm_Hy_add_26 rfl) ?_
        exact ih (k + 1) _ (by omega) (by omega) (by omega) (by rw [hpl, hdl, plc, if_pos hc]; omega)
      · rw [if_neg hc]
        have e0 : kk = (plc l hs : Int) := by rw [hpl, hdl, plc, if_neg hc]; omega
        rw [← e0] at kq
        refine xx (xs_if_eq_t (tgt := 29) dm_Hy_add_20 rfl (by unfold ir; omega) (by decide)) ?_
        exact kq
