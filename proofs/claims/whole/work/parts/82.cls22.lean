/-! the machine looks at its items -/
def itR (h : xH) (o : Option oB) (r : Option xV) : Prop := match o with
  | some x => ∃ a, r = some (.inr (some a)) ∧ itA h a x
  | none => r = some (.inr none)
def rwR (h : xH) (o : Option (List Int)) (r : Option xV) : Prop := match o with
  | some x => ∃ a, r = some (.inr (some a)) ∧ rwA h a x
  | none => r = some (.inr none)
theorem sh_belowR {h : xH} {xs : List oB} {p : Int} (hk : cK h xs) (hp : ir p) : x_Mx mm_Sh_below [.inr (some 6), .inl p] h (fun r hf => hf = h ∧ itR h (if 0 ≤ p then xs[p.toNat]? else none) r) := by
  obtain ⟨q, q1, q2⟩ := hk
  refine x_Mq (sh_below q1 hp) (fun r hf hh => ⟨hh.1, ?_⟩)
  rw [hh.2]
  simp only [List.length_reverse]
  by_cases h0 : 0 ≤ p
  · rw [if_pos h0]
    by_cases h1 : p < (xs.length : Int)
    · rw [if_pos ⟨h0, h1⟩]
      obtain ⟨x, hx⟩ : ∃ x, xs[p.toNat]? = some x := ⟨_, List.getElem?_eq_getElem (by omega)⟩
      obtain ⟨b, b1, b2⟩ := q2 (xs.length - 1 - p.toNat) x (by rw [List.getElem?_reverse (by omega), show xs.length - 1 - (xs.length - 1 - p.toNat) = p.toNat by omega]; exact hx)
      rw [hx, List.getD_eq_getElem?_getD, b1]
      exact ⟨b, rfl, b2⟩
    · rw [if_neg (fun e => h1 e.2), List.getElem?_eq_none (by omega)]
      exact rfl
  · rw [if_neg h0, if_neg (fun e => h0 e.1)]
    exact rfl
theorem sh_getR {h : xH} {a ra N : Nat} {xs : List oB} {p : Int} (hk : cL h a ra N xs) (hp : ir p) : x_Mx mm_Sh_get [.inr (some a), .inl p] h (fun r hf => hf = h ∧ itR h (if 0 ≤ p then xs[p.toNat]? else none) r) := by
  obtain ⟨q, q1, q2⟩ := hk
  refine x_Mq (sh_get q1 hp) (fun r hf hh => ⟨hh.1, ?_⟩)
  rw [hh.2]
  by_cases h0 : 0 ≤ p
  · rw [if_pos h0]
    by_cases h1 : p < (xs.length : Int)
    · rw [if_pos ⟨h0, h1⟩]
      obtain ⟨x, hx⟩ : ∃ x, xs[p.toNat]? = some x := ⟨_, List.getElem?_eq_getElem (by omega)⟩
      obtain ⟨b, b1, b2⟩ := q2 p.toNat x hx
      rw [hx, List.getD_eq_getElem?_getD, b1]
      exact ⟨b, rfl, b2⟩
    · rw [if_neg (fun e => h1 e.2), List.getElem?_eq_none (by omega)]
      exact rfl
  · rw [if_neg h0, if_neg (fun e => h0 e.1)]
    exact rfl
theorem cL_c {h : xH} {a ra N : Nat} {xs : List oB} (hk : cL h a ra N xs) : ∃ fs, h.1[a]? = some (.inr (.inr (6, fs))) := by
  obtain ⟨q, q1, q2⟩ := hk
  exact ⟨_, q1.1⟩
set_option maxHeartbeats 4000000 in
set_option maxRecDepth 100000 in
theorem ma_itemBelow {h : xH} {M : mS} {p k : Int} (hg : gM M) (hm : cM h M) (hp : ir p) (hk : ir k) : x_Mx mm_Ma_itemBelow [.inr (some 0), .inl p, .inl k] h (fun r hf => hf = h ∧ itR h (if 0 ≤ p ∧ kd M p.toNat = k then M.1[p.toNat]? else none) r) := by
  refine xmx rfl (nl rfl) ?_
  obtain ⟨m1, m2, m3, -⟩ := hm
  show x_X _ 0 [some (.inr (some 0)), some (.inl p), some (.inl k), none] [] _ _
  refine xx (xs_aload_n dm_Ma_itemBelow_0 rfl) ?_
  refine xx (xs_getf dm_Ma_itemBelow_1 lf_Ma_21 m1 rfl) ?_
  refine xx (xs_iload_n dm_Ma_itemBelow_4 rfl) ?_
  refine xcV (as := [.inl p]) (rest := []) dm_Ma_itemBelow_5 lc_Sh_below lm_Ma_178 li_Sh_below (nr rfl rfl) rfl rfl (cL_c m3).choose_spec rfl (nl rfl) (sh_belowR m3 hp) ?_
  rintro r9 hx9 ⟨hhx9, hR⟩
  have hhx9 := hhx9.symm
  subst hhx9
  by_cases h0 : 0 ≤ p
  · rw [if_pos h0] at hR
    cases hx : M.1[p.toNat]? with
    | none =>
      rw [hx] at hR
      have hR' : r9 = some (.inr none) := hR
      subst hR'
      show x_X _ 8 [some (.inr (some 0)), some (.inl p), some (.inl k), none] [.inr none] _ _
      refine xx (xs_astore_n dm_Ma_itemBelow_8 (by decide)) ?_
      show x_X _ 9 [some (.inr (some 0)), some (.inl p), some (.inl k), some (.inr none)] [] _ _
      refine xx (xs_aload_n dm_Ma_itemBelow_9 rfl) ?_
      refine xx (xs_ifnull_t (tgt := 25) dm_Ma_itemBelow_10 rfl) ?_
      refine xx (xs_null dm_Ma_itemBelow_25) ?_
      exact ⟨_, _, xb_a dm_Ma_itemBelow_26 rfl (Or.inl ⟨_, rfl⟩), rfl, by split <;> exact rfl⟩
    | some x =>
      rw [hx] at hR
      obtain ⟨b, e9, hb⟩ := hR
      subst e9
      have hb' := hb
      obtain ⟨-, m, y, bc, -⟩ := hb
      obtain ⟨k1, -⟩ := kd_of hx
      have ik := (kd_ir hg p.toNat).1
      rw [k1] at ik
      show x_X _ 8 [some (.inr (some 0)), some (.inl p), some (.inl k), none] [.inr (some b)] _ _
      refine xx (xs_astore_n dm_Ma_itemBelow_8 (by decide)) ?_
      show x_X _ 9 [some (.inr (some 0)), some (.inl p), some (.inl k), some (.inr (some b))] [] _ _
      refine xx (xs_aload_n dm_Ma_itemBelow_9 rfl) ?_
      refine xx (xs_ifnull_f dm_Ma_itemBelow_10) ?_
      refine xx (xs_aload_n dm_Ma_itemBelow_13 rfl) ?_
      refine xx (xs_getf dm_Ma_itemBelow_14 lf_Ma_204 bc rfl) ?_
      refine xx (xs_iload_n dm_Ma_itemBelow_17 rfl) ?_
      refine xx_icmp_ne (tgt := 25) dm_Ma_itemBelow_18 rfl ik hk (fun hc => ?_) (fun hc => ?_)
      · change x_X _ 25 _ _ _ _
        refine xx (xs_null dm_Ma_itemBelow_25) ?_
        exact ⟨_, _, xb_a dm_Ma_itemBelow_26 rfl (Or.inl ⟨_, rfl⟩), rfl, by rw [if_neg (fun e => hc (by rw [← k1]; exact e.2))]; exact rfl⟩
      · change x_X _ 21 _ _ _ _
        refine xx (xs_aload_n dm_Ma_itemBelow_21 rfl) ?_
        refine xx (xs_goto (tgt := 26) dm_Ma_itemBelow_22 rfl) ?_
        exact ⟨_, _, xb_a dm_Ma_itemBelow_26 rfl (Or.inl ⟨_, rfl⟩), rfl, by rw [if_pos ⟨h0, by rw [k1]; exact hc⟩]; exact ⟨b, rfl, hb'⟩⟩
  · rw [if_neg h0] at hR
    have hR' : r9 = some (.inr none) := hR
    subst hR'
    show x_X _ 8 [some (.inr (some 0)), some (.inl p), some (.inl k), none] [.inr none] _ _
    refine xx (xs_astore_n dm_Ma_itemBelow_8 (by decide)) ?_
    show x_X _ 9 [some (.inr (some 0)), some (.inl p), some (.inl k), some (.inr none)] [] _ _
    refine xx (xs_aload_n dm_Ma_itemBelow_9 rfl) ?_
    refine xx (xs_ifnull_t (tgt := 25) dm_Ma_itemBelow_10 rfl) ?_
    refine xx (xs_null dm_Ma_itemBelow_25) ?_
    exact ⟨_, _, xb_a dm_Ma_itemBelow_26 rfl (Or.inl ⟨_, rfl⟩), rfl, by rw [if_neg (fun e => h0 e.1)]; exact rfl⟩
