/-! the type of a term, the reference's way -/
theorem isTm_tl {G : List (List Int)} {t a : List Int} (h : isTm G t a) : ∀ m : Nat, (∀ c ∈ G, c.length ≤ m) → t.length ≤ m → a.length + 1 ≤ t.length + m := by
  refine isTm_ind (P := fun G t a => ∀ m : Nat, (∀ c ∈ G, c.length ≤ m) → t.length ≤ m → a.length + 1 ≤ t.length + m) ?_ ?_ ?_ ?_ ?_ ?_ h
  · intro G n a _ _ _ m _ h2; simp at h2 ⊢; omega
  · intro G n a _ _ _ m _ h2; simp at h2 ⊢; omega
  · intro G a _ m _ h2; simp at h2 ⊢; omega
  · intro G d a hd _ m h1 h2
    have := h1 a (List.mem_of_getElem? hd)
    simp; omega
  · intro G f x a b _ _ _ _ hf _ m h1 h2
    simp at h2 ⊢
    have := hf m h1 (by omega)
    simp at this
    omega
  · intro G a t b _ _ _ ht m h1 h2
    simp at h2 ⊢
    have hc1 : ∀ c ∈ a :: G, c.length ≤ m := by
      intro c hc
      rcases List.mem_cons.mp hc with e | e
      · subst e; omega
      · exact h1 c e
    have := ht m hc1 (by omega)
    omega
def arr : List (List Int) → List Int → List Int
  | [], r => r
  | a :: l, r => 0 :: (a ++ arr l r)
theorem arr_len (l : List (List Int)) (r : List Int) : r.length ≤ (arr l r).length := by
  induction l with
  | nil => exact Nat.le_refl _
  | cons a l ih => simp [arr]; omega
def wb (q : rS) (B : Nat → Int) : rS := fun a j => if a = 5 then B j else q a j
theorem wb_6 (q : rS) (B : Nat → Int) (j : Nat) : (wb q B) 6 j = q 6 j := rfl
theorem wb_0 (q : rS) (B : Nat → Int) (j : Nat) : (wb q B) 0 j = q 0 j := rfl
theorem wb_5 (q : rS) (B : Nat → Int) (j : Nat) : (wb q B) 5 j = B j := rfl
theorem wb_em (q : rS) (B : Nat → Int) (x : Int) : em (wb q B) x = wb (em q x) B := by
  funext a j
  by_cases h : a = 5
  · subst h; simp [em, u3, wb]
  · simp [em, u3, wb, h]
theorem wb_emL (q : rS) (B : Nat → Int) (l : List Int) : emL (wb q B) l = wb (emL q l) B := by
  induction l generalizing q with
  | nil => rfl
  | cons x l ih => rw [emL_cons, wb_em, ih, emL_cons]
theorem wb_u3 (q : rS) (B : Nat → Int) (j : Nat) (x : Int) : u3 (wb q B) 5 j x = wb q (fun i => if i = j then x else B i) := by
  funext a i
  by_cases h : a = 5
  · subst h; simp [u3, wb]
  · simp [u3, wb, h]
theorem wb_self (q : rS) : wb q (q 5) = q := by
  funext a j
  by_cases h : a = 5
  · subst h; simp [wb]
  · simp [wb, h]
theorem wb_wb (q : rS) (B B' : Nat → Int) : wb (wb q B) B' = wb q B' := by
  funext a j
  by_cases h : a = 5
  · subst h; simp [wb]
  · simp [wb, h]
theorem sg_wb {q : rS} {B : Nat → Int} {p : Nat} {l : List Int} (h : sg q p l) : sg (wb q B) p l := h
set_option maxHeartbeats 4000000 in
set_option maxRecDepth 100000 in
theorem re_typeOf_b {q : rS} {f st0 pp gg rr : Int} {r : List Int} (E : rE) (hr : isTy r) (hgg : gg ≤ 10000) (as : List (List Int)) : ∀ (P : Nat) (tt jj : Int), tt = P → jj + (as.length : Int) = gg → 0 ≤ jj → (∀ a ∈ as, isTy a) → sg q P (arr as r) → (P : Int) + ((arr as r).length : Int) ≤ q 6 5 → q 6 5 + (r.length : Int) ≤ 10000 → rX E mm_Re_typeOf 184 [some (.inr (some E.1.length)), some (.inl f), some (.inl st0), some (.inl pp), some (.inl gg), some (.inl rr), some (.inl tt), some (.inl jj)] [] q (fun x q' => x = some (.inl st0) ∧ q' = emL q r) := by
  induction as with
  | nil =>
    intro P tt jj htt hjj h0 ha hs h1 h2
    simp [arr] at hjj hs h1
    refine rx (xs_iload dm_Re_typeOf_184 rfl) ?_
    refine rx (xs_iload dm_Re_typeOf_186 rfl) ?_
    refine rx (xs_icmp_ge_t (tgt := 207) dm_Re_typeOf_188 rfl (by unfold ir; omega) (by unfold ir; omega) (by omega)) ?_
    refine rx (xs_aload_n dm_Re_typeOf_207 rfl) ?_
    refine rx (xs_iload dm_Re_typeOf_208 rfl) ?_
    refine rcV (as := [.inl tt]) (rest := []) dm_Re_typeOf_210 lc_Re_skipType lm_Re_36 li_Re_skipType (nr rfl rfl) rfl rfl rfl (nl rfl) (re_skipType hs hr htt (by omega)) ?_
    rintro _ q1 ⟨rfl, hq1⟩
    have hq1 := hq1.symm
    subst hq1
    show rX E _ 213 [some (.inr (some E.1.length)), some (.inl f), some (.inl st0), some (.inl pp), some (.inl gg), some (.inl rr), some (.inl tt), some (.inl jj)] [.inl ((P : Int) + (r.length : Int))] _ _
    refine rx (xs_istore dm_Re_typeOf_213 (by decide)) ?_
    show rX E _ 215 [some (.inr (some E.1.length)), some (.inl f), some (.inl st0), some (.inl pp), some (.inl gg), some (.inl rr), some (.inl tt), some (.inl ((P : Int) + (r.length : Int)))] [] _ _
    refine rx (xs_aload_n dm_Re_typeOf_215 rfl) ?_
    refine rx (xs_iload dm_Re_typeOf_216 rfl) ?_
    refine rx (xs_iload dm_Re_typeOf_218 rfl) ?_
    refine rcV (as := [.inl tt, .inl ((P : Int) + (r.length : Int))]) (rest := []) dm_Re_typeOf_220 lc_Re_emitRow lm_Re_43 li_Re_emitRow (nr rfl rfl) rfl rfl rfl (nl rfl) (re_emitRow hs htt rfl h1 h2) ?_
    rintro _ _ ⟨rfl, rfl⟩
    show rX E _ 223 [some (.inr (some E.1.length)), some (.inl f), some (.inl st0), some (.inl pp), some (.inl gg), some (.inl rr), some (.inl tt), some (.inl ((P : Int) + (r.length : Int)))] [] _ _
    refine rx (xs_iload_n dm_Re_typeOf_223 rfl) ?_
    exact rri dm_Re_typeOf_224 rfl ⟨rfl, rfl⟩
  | cons a as ih =>
    intro P tt jj htt hjj h0 ha hs h1 h2
    simp only [arr, List.length_cons, List.length_append] at hjj hs h1
    have hs2 := sg_tl hs
    rw [sg_app] at hs2
    refine rx (xs_iload dm_Re_typeOf_184 rfl) ?_
    refine rx (xs_iload dm_Re_typeOf_186 rfl) ?_
    refine rx (xs_icmp_ge_f (tgt := 207) dm_Re_typeOf_188 rfl (by unfold ir; omega) (by unfold ir; omega) (by omega)) ?_
    refine rx (xs_aload_n dm_Re_typeOf_191 rfl) ?_
    refine rx (xs_iload dm_Re_typeOf_192 rfl) ?_
    refine rx (xs_iconst dm_Re_typeOf_194) ?_
    refine rx (xs_iadd dm_Re_typeOf_195) ?_
    refine rcV (as := [.inl (tt + 1)]) (rest := []) dm_Re_typeOf_196 lc_Re_skipType lm_Re_36 li_Re_skipType (nr rfl rfl) rfl rfl rfl (nl rfl) (re_skipType (p := P + 1) hs2.1 (ha a List.mem_cons_self) (by omega) (by omega)) ?_
    rintro _ q1 ⟨rfl, hq1⟩
    have hq1 := hq1.symm
    subst hq1
    show rX E _ 199 [some (.inr (some E.1.length)), some (.inl f), some (.inl st0), some (.inl pp), some (.inl gg), some (.inl rr), some (.inl tt), some (.inl jj)] [.inl (((P + 1 : Nat) : Int) + (a.length : Int))] _ _
    refine rx (xs_istore dm_Re_typeOf_199 (by decide)) ?_
    show rX E _ 201 [some (.inr (some E.1.length)), some (.inl f), some (.inl st0), some (.inl pp), some (.inl gg), some (.inl rr), some (.inl (((P + 1 : Nat) : Int) + (a.length : Int))), some (.inl jj)] [] _ _
    refine rx (xs_iinc dm_Re_typeOf_201 rfl (by decide)) ?_
    show rX E _ 204 [some (.inr (some E.1.length)), some (.inl f), some (.inl st0), some (.inl pp), some (.inl gg), some (.inl rr), some (.inl (((P + 1 : Nat) : Int) + (a.length : Int))), some (.inl (jj + 1))] [] _ _
    refine rx (xs_goto (tgt := 184) dm_Re_typeOf_204 rfl) ?_
    exact ih (P + 1 + a.length) _ _ (by omega) (by omega) (by omega) (fun z hz => ha z (List.mem_cons_of_mem _ hz)) hs2.2 (by omega) h2
theorem eqT_arr {s r : List Int} (hs : isTy s) : ∀ (as : List (List Int)), (∀ a ∈ as, isTy a) → 0 :: (s ++ (0 :: (s ++ [1]))) = arr as r → as.length ≤ 2 ∧ r = eqT s as.length := by
  intro as ha h
  cases as with
  | nil => exact ⟨by simp, h.symm⟩
  | cons a as =>
    have h1 := isTy_fi hs (ha a List.mem_cons_self) h
    cases as with
    | nil => exact ⟨by simp, h1.2.symm⟩
    | cons b as =>
      have h2 := isTy_fi hs (ha b (List.mem_cons_of_mem _ List.mem_cons_self)) h1.2
      cases as with
      | nil => exact ⟨by simp, h2.2.symm⟩
      | cons c as => have h3 := h2.2; simp [arr] at h3
set_option maxHeartbeats 4000000 in
set_option maxRecDepth 100000 in
theorem re_typeOf_l {f st0 : Int} (E : rE) : ∀ (N : Nat) (s : List Int) (G : List (List Int)) (a : List Int) (as : List (List Int)) (r : List Int) (k : Nat) (q : rS) (B : Nat → Int) (pp gg rr : Int) (o6 o7 : Option xV), s.length < N → isTm G s a → a = arr as r → (∀ c ∈ as, isTy c) → isTy r → pp = k → gg = as.length → rr = G.length → sg q k s → (k : Int) + (s.length : Int) ≤ q 6 5 → G.length + s.length ≤ 40 → as.length + s.length ≤ 1000 → q 6 5 + (r.length : Int) ≤ 9000 → (∀ (d : Nat) (c : List Int), G[d]? = some c → ∃ P : Nat, B (G.length - 1 - d) = P ∧ sg q P c ∧ (P : Int) + (c.length : Int) ≤ q 6 5) → rX E mm_Re_typeOf 13 [some (.inr (some E.1.length)), some (.inl f), some (.inl st0), some (.inl pp), some (.inl gg), some (.inl rr), o6, o7] [] (wb q B) (fun x q' => x = some (.inl st0) ∧ ∃ B', q' = wb (emL q r) B') := by
  intro N
  induction N with
  | zero => intro s G a as r k q B pp gg rr o6 o7 hN; omega
  | succ N ih =>
    intro s G a as r k q B pp gg rr o6 o7 hN ht hA hat hrt hpp hgg hrr hs h1 h2 h2b h3 hB
    rcases isTm_inv ht with ⟨m, m0, m7, ha, e⟩ | ⟨m, m0, m7, ha, e⟩ | ⟨c, ha, e, hae⟩ | ⟨d, hd, ha, e⟩ | ⟨f1, x1, c, hs1, ha1, hf1, hx1, e⟩ | ⟨c, u, b, hs1, hb1, hu, e, hae⟩
    · subst e
      simp only [List.cons_append, List.append_assoc, List.nil_append, List.length_append, List.length_cons, List.length_nil] at hs hN h1 h2 h2b
      have hs2 := sg_tl (sg_tl hs)
      subst hA
      refine rx (xs_aload_n dm_Re_typeOf_13 rfl) ?_
      refine rx (rg (v := .inr (some (rA E 0))) dm_Re_typeOf_14 lf_Re_7 rfl) ?_
      refine rx (xs_iload_n dm_Re_typeOf_17 rfl) ?_
      refine rx (rlv 0 10 (by decide) dm_Re_typeOf_18 (by omega) (by show _ < ((10000 : Nat) : Int); omega) (by show q 0 _ = _; rw [hpp, Int.toNat_natCast]; exact sg_hd hs)) ?_
      refine rx (xs_bipush dm_Re_typeOf_19 (by decide)) ?_
      refine rx (xs_icmp_eq_f (tgt := 35) dm_Re_typeOf_21 rfl (by unfold ir; omega) (by unfold ir; omega) (by decide)) ?_
      refine rx (xs_aload_n dm_Re_typeOf_24 rfl) ?_
      refine rx (rg (v := .inr (some (rA E 0))) dm_Re_typeOf_25 lf_Re_7 rfl) ?_
      refine rx (xs_iload_n dm_Re_typeOf_28 rfl) ?_
      refine rx (rlv 0 10 (by decide) dm_Re_typeOf_29 (by omega) (by show _ < ((10000 : Nat) : Int); omega) (by show q 0 _ = _; rw [hpp, Int.toNat_natCast]; exact sg_hd hs)) ?_
      refine rx (xs_bipush dm_Re_typeOf_30 (by decide)) ?_
      refine rx (xs_icmp_ne_t (tgt := 110) dm_Re_typeOf_32 rfl (by unfold ir; omega) (by unfold ir; omega) (by decide)) ?_
      refine rx (xs_aload_n dm_Re_typeOf_110 rfl) ?_
      refine rx (rg (v := .inr (some (rA E 0))) dm_Re_typeOf_111 lf_Re_7 rfl) ?_
      refine rx (xs_iload_n dm_Re_typeOf_114 rfl) ?_
      refine rx (rlv 0 10 (by decide) dm_Re_typeOf_115 (by omega) (by show _ < ((10000 : Nat) : Int); omega) (by show q 0 _ = _; rw [hpp, Int.toNat_natCast]; exact sg_hd hs)) ?_
      refine rx (xs_bipush dm_Re_typeOf_116 (by decide)) ?_
      refine rx (xs_icmp_ne_t (tgt := 143) dm_Re_typeOf_118 rfl (by unfold ir; omega) (by unfold ir; omega) (by decide)) ?_
      refine rx (xs_aload_n dm_Re_typeOf_143 rfl) ?_
      refine rx (rg (v := .inr (some (rA E 0))) dm_Re_typeOf_144 lf_Re_7 rfl) ?_
      refine rx (xs_iload_n dm_Re_typeOf_147 rfl) ?_
      refine rx (rlv 0 10 (by decide) dm_Re_typeOf_148 (by omega) (by show _ < ((10000 : Nat) : Int); omega) (by show q 0 _ = _; rw [hpp, Int.toNat_natCast]; exact sg_hd hs)) ?_
      refine rx (xs_bipush dm_Re_typeOf_149 (by decide)) ?_
      refine rx (xs_icmp_lt_t (tgt := 176) dm_Re_typeOf_151 rfl (by unfold ir; omega) (by unfold ir; omega) (by decide)) ?_
      refine rx (xs_iload_n dm_Re_typeOf_176 rfl) ?_
      refine rx (xs_iconst dm_Re_typeOf_177) ?_
      refine rx (xs_iadd dm_Re_typeOf_178) ?_
      refine rx (xs_istore dm_Re_typeOf_179 (by decide)) ?_
      show rX E _ 181 [some (.inr (some E.1.length)), some (.inl f), some (.inl st0), some (.inl pp), some (.inl gg), some (.inl rr), some (.inl (pp + 2)), o7] [] _ _
      refine rx (xs_iconst dm_Re_typeOf_181) ?_
      refine rx (xs_istore dm_Re_typeOf_182 (by decide)) ?_
      show rX E _ 184 [some (.inr (some E.1.length)), some (.inl f), some (.inl st0), some (.inl pp), some (.inl gg), some (.inl rr), some (.inl (pp + 2)), some (.inl 0)] [] _ _
      refine rxq (re_typeOf_b E hrt (by omega) as (k + 1 + 1) _ _ (by omega) (by omega) (by omega) hat (sg_wb hs2) (by show _ ≤ q 6 5; omega) (by show q 6 5 + _ ≤ _; omega)) ?_
      rintro _ _ ⟨rfl, rfl⟩
      exact ⟨rfl, B, wb_emL q B r⟩
    · subst e
      simp only [List.cons_append, List.append_assoc, List.nil_append, List.length_append, List.length_cons, List.length_nil] at hs hN h1 h2 h2b
      have hs2 := sg_tl (sg_tl hs)
      subst hA
      refine rx (xs_aload_n dm_Re_typeOf_13 rfl) ?_
      refine rx (rg (v := .inr (some (rA E 0))) dm_Re_typeOf_14 lf_Re_7 rfl) ?_
      refine rx (xs_iload_n dm_Re_typeOf_17 rfl) ?_
      refine rx (rlv 0 11 (by decide) dm_Re_typeOf_18 (by omega) (by show _ < ((10000 : Nat) : Int); omega) (by show q 0 _ = _; rw [hpp, Int.toNat_natCast]; exact sg_hd hs)) ?_
      refine rx (xs_bipush dm_Re_typeOf_19 (by decide)) ?_
      refine rx (xs_icmp_eq_f (tgt := 35) dm_Re_typeOf_21 rfl (by unfold ir; omega) (by unfold ir; omega) (by decide)) ?_
      refine rx (xs_aload_n dm_Re_typeOf_24 rfl) ?_
      refine rx (rg (v := .inr (some (rA E 0))) dm_Re_typeOf_25 lf_Re_7 rfl) ?_
      refine rx (xs_iload_n dm_Re_typeOf_28 rfl) ?_
      refine rx (rlv 0 11 (by decide) dm_Re_typeOf_29 (by omega) (by show _ < ((10000 : Nat) : Int); omega) (by show q 0 _ = _; rw [hpp, Int.toNat_natCast]; exact sg_hd hs)) ?_
      refine rx (xs_bipush dm_Re_typeOf_30 (by decide)) ?_
      refine rx (xs_icmp_ne_t (tgt := 110) dm_Re_typeOf_32 rfl (by unfold ir; omega) (by unfold ir; omega) (by decide)) ?_
      refine rx (xs_aload_n dm_Re_typeOf_110 rfl) ?_
      refine rx (rg (v := .inr (some (rA E 0))) dm_Re_typeOf_111 lf_Re_7 rfl) ?_
      refine rx (xs_iload_n dm_Re_typeOf_114 rfl) ?_
      refine rx (rlv 0 11 (by decide) dm_Re_typeOf_115 (by omega) (by show _ < ((10000 : Nat) : Int); omega) (by show q 0 _ = _; rw [hpp, Int.toNat_natCast]; exact sg_hd hs)) ?_
      refine rx (xs_bipush dm_Re_typeOf_116 (by decide)) ?_
      refine rx (xs_icmp_ne_f (tgt := 143) dm_Re_typeOf_118 rfl (by unfold ir; omega) (by unfold ir; omega) (by decide)) ?_
      refine rx (xs_aload_n dm_Re_typeOf_121 rfl) ?_
      refine rx (rg (v := .inr (some (rA E 0))) dm_Re_typeOf_122 lf_Re_7 rfl) ?_
      refine rx (xs_iload_n dm_Re_typeOf_125 rfl) ?_
      refine rx (xs_iconst dm_Re_typeOf_126) ?_
      refine rx (xs_iadd dm_Re_typeOf_127) ?_
      refine rx (rlv 0 m (by decide) dm_Re_typeOf_128 (by omega) (by show _ < ((10000 : Nat) : Int); omega) (by show q 0 _ = _; rw [← sg_hd (sg_tl hs)]; congr 1; omega)) ?_
      refine rx (xs_if_ne_t (tgt := 143) dm_Re_typeOf_129 rfl (by unfold ir; omega) (by omega)) ?_
      refine rx (xs_aload_n dm_Re_typeOf_143 rfl) ?_
      refine rx (rg (v := .inr (some (rA E 0))) dm_Re_typeOf_144 lf_Re_7 rfl) ?_
      refine rx (xs_iload_n dm_Re_typeOf_147 rfl) ?_
      refine rx (rlv 0 11 (by decide) dm_Re_typeOf_148 (by omega) (by show _ < ((10000 : Nat) : Int); omega) (by show q 0 _ = _; rw [hpp, Int.toNat_natCast]; exact sg_hd hs)) ?_
      refine rx (xs_bipush dm_Re_typeOf_149 (by decide)) ?_
      refine rx (xs_icmp_lt_t (tgt := 176) dm_Re_typeOf_151 rfl (by unfold ir; omega) (by unfold ir; omega) (by decide)) ?_
      refine rx (xs_iload_n dm_Re_typeOf_176 rfl) ?_
      refine rx (xs_iconst dm_Re_typeOf_177) ?_
      refine rx (xs_iadd dm_Re_typeOf_178) ?_
      refine rx (xs_istore dm_Re_typeOf_179 (by decide)) ?_
      show rX E _ 181 [some (.inr (some E.1.length)), some (.inl f), some (.inl st0), some (.inl pp), some (.inl gg), some (.inl rr), some (.inl (pp + 2)), o7] [] _ _
      refine rx (xs_iconst dm_Re_typeOf_181) ?_
      refine rx (xs_istore dm_Re_typeOf_182 (by decide)) ?_
      show rX E _ 184 [some (.inr (some E.1.length)), some (.inl f), some (.inl st0), some (.inl pp), some (.inl gg), some (.inl rr), some (.inl (pp + 2)), some (.inl 0)] [] _ _
      refine rxq (re_typeOf_b E hrt (by omega) as (k + 1 + 1) _ _ (by omega) (by omega) (by omega) hat (sg_wb hs2) (by show _ ≤ q 6 5; omega) (by show q 6 5 + _ ≤ _; omega)) ?_
      rintro _ _ ⟨rfl, rfl⟩
      exact ⟨rfl, B, wb_emL q B r⟩
    · subst e
      simp only [List.cons_append, List.append_assoc, List.nil_append, List.length_append, List.length_cons, List.length_nil] at hs hN h1 h2 h2b
      obtain ⟨hk2, hre⟩ := eqT_arr ha as hat (hae.symm.trans hA)
      have hs2 := sg_tl (sg_tl hs)
      refine rx (xs_aload_n dm_Re_typeOf_13 rfl) ?_
      refine rx (rg (v := .inr (some (rA E 0))) dm_Re_typeOf_14 lf_Re_7 rfl) ?_
      refine rx (xs_iload_n dm_Re_typeOf_17 rfl) ?_
      refine rx (rlv 0 11 (by decide) dm_Re_typeOf_18 (by omega) (by show _ < ((10000 : Nat) : Int); omega) (by show q 0 _ = _; rw [hpp, Int.toNat_natCast]; exact sg_hd hs)) ?_
      refine rx (xs_bipush dm_Re_typeOf_19 (by decide)) ?_
      refine rx (xs_icmp_eq_f (tgt := 35) dm_Re_typeOf_21 rfl (by unfold ir; omega) (by unfold ir; omega) (by decide)) ?_
      refine rx (xs_aload_n dm_Re_typeOf_24 rfl) ?_
      refine rx (rg (v := .inr (some (rA E 0))) dm_Re_typeOf_25 lf_Re_7 rfl) ?_
      refine rx (xs_iload_n dm_Re_typeOf_28 rfl) ?_
      refine rx (rlv 0 11 (by decide) dm_Re_typeOf_29 (by omega) (by show _ < ((10000 : Nat) : Int); omega) (by show q 0 _ = _; rw [hpp, Int.toNat_natCast]; exact sg_hd hs)) ?_
      refine rx (xs_bipush dm_Re_typeOf_30 (by decide)) ?_
      refine rx (xs_icmp_ne_t (tgt := 110) dm_Re_typeOf_32 rfl (by unfold ir; omega) (by unfold ir; omega) (by decide)) ?_
      refine rx (xs_aload_n dm_Re_typeOf_110 rfl) ?_
      refine rx (rg (v := .inr (some (rA E 0))) dm_Re_typeOf_111 lf_Re_7 rfl) ?_
      refine rx (xs_iload_n dm_Re_typeOf_114 rfl) ?_
      refine rx (rlv 0 11 (by decide) dm_Re_typeOf_115 (by omega) (by show _ < ((10000 : Nat) : Int); omega) (by show q 0 _ = _; rw [hpp, Int.toNat_natCast]; exact sg_hd hs)) ?_
      refine rx (xs_bipush dm_Re_typeOf_116 (by decide)) ?_
      refine rx (xs_icmp_ne_f (tgt := 143) dm_Re_typeOf_118 rfl (by unfold ir; omega) (by unfold ir; omega) (by decide)) ?_
      refine rx (xs_aload_n dm_Re_typeOf_121 rfl) ?_
      refine rx (rg (v := .inr (some (rA E 0))) dm_Re_typeOf_122 lf_Re_7 rfl) ?_
      refine rx (xs_iload_n dm_Re_typeOf_125 rfl) ?_
      refine rx (xs_iconst dm_Re_typeOf_126) ?_
      refine rx (xs_iadd dm_Re_typeOf_127) ?_
      refine rx (rlv 0 0 (by decide) dm_Re_typeOf_128 (by omega) (by show _ < ((10000 : Nat) : Int); omega) (by show q 0 _ = _; rw [← sg_hd (sg_tl hs)]; congr 1; omega)) ?_
      refine rx (xs_if_ne_f (tgt := 143) dm_Re_typeOf_129 rfl (by unfold ir; omega) (by decide)) ?_
      refine rx (xs_aload_n dm_Re_typeOf_132 rfl) ?_
      refine rx (xs_iload_n dm_Re_typeOf_133 rfl) ?_
      refine rx (xs_iconst dm_Re_typeOf_134) ?_
      refine rx (xs_iadd dm_Re_typeOf_135) ?_
      refine rx (xs_iload dm_Re_typeOf_136 rfl) ?_
      refine rcV (as := [.inl (pp + 2), .inl gg]) (rest := []) dm_Re_typeOf_138 lc_Re_equalAt lm_Re_47 li_Re_equalAt (nr rfl rfl) rfl rfl rfl (nl rfl) (re_equalAt (p := k + 1 + 1) (k := as.length) (sg_wb hs2) ha (by omega) hgg hk2 (by show _ ≤ q 6 5; omega) (by show q 6 5 + _ + _ ≤ _; omega)) ?_
      rintro _ _ ⟨rfl, rfl⟩
      show rX E _ 141 [some (.inr (some E.1.length)), some (.inl f), some (.inl st0), some (.inl pp), some (.inl gg), some (.inl rr), o6, o7] [] _ _
      refine rx (xs_iload_n dm_Re_typeOf_141 rfl) ?_
      exact rri dm_Re_typeOf_142 rfl ⟨rfl, B, by rw [hre, wb_emL]⟩
    · subst e
      simp only [List.cons_append, List.append_assoc, List.nil_append, List.length_append, List.length_cons, List.length_nil] at hs hN h1 h2 h2b
      obtain ⟨P, hP, hsP, hPo⟩ := hB d a hd
      have hdl := (List.getElem?_eq_some_iff.mp hd).1
      have hib : ir (20 + (d : Int)) := by unfold ir; omega
      subst hA
      refine rx (xs_aload_n dm_Re_typeOf_13 rfl) ?_
      refine rx (rg (v := .inr (some (rA E 0))) dm_Re_typeOf_14 lf_Re_7 rfl) ?_
      refine rx (xs_iload_n dm_Re_typeOf_17 rfl) ?_
      refine rx (rlv 0 (20 + (d : Int)) (by decide) dm_Re_typeOf_18 (by omega) (by show _ < ((10000 : Nat) : Int); omega) (by show q 0 _ = _; rw [hpp, Int.toNat_natCast]; exact sg_hd hs)) ?_
      refine rx (xs_bipush dm_Re_typeOf_19 (by decide)) ?_
      refine rx (xs_icmp_eq_f (tgt := 35) dm_Re_typeOf_21 rfl hib (by unfold ir; omega) (by omega)) ?_
      refine rx (xs_aload_n dm_Re_typeOf_24 rfl) ?_
      refine rx (rg (v := .inr (some (rA E 0))) dm_Re_typeOf_25 lf_Re_7 rfl) ?_
      refine rx (xs_iload_n dm_Re_typeOf_28 rfl) ?_
      refine rx (rlv 0 (20 + (d : Int)) (by decide) dm_Re_typeOf_29 (by omega) (by show _ < ((10000 : Nat) : Int); omega) (by show q 0 _ = _; rw [hpp, Int.toNat_natCast]; exact sg_hd hs)) ?_
      refine rx (xs_bipush dm_Re_typeOf_30 (by decide)) ?_
      refine rx (xs_icmp_ne_t (tgt := 110) dm_Re_typeOf_32 rfl hib (by unfold ir; omega) (by omega)) ?_
      refine rx (xs_aload_n dm_Re_typeOf_110 rfl) ?_
      refine rx (rg (v := .inr (some (rA E 0))) dm_Re_typeOf_111 lf_Re_7 rfl) ?_
      refine rx (xs_iload_n dm_Re_typeOf_114 rfl) ?_
      refine rx (rlv 0 (20 + (d : Int)) (by decide) dm_Re_typeOf_115 (by omega) (by show _ < ((10000 : Nat) : Int); omega) (by show q 0 _ = _; rw [hpp, Int.toNat_natCast]; exact sg_hd hs)) ?_
      refine rx (xs_bipush dm_Re_typeOf_116 (by decide)) ?_
      refine rx (xs_icmp_ne_t (tgt := 143) dm_Re_typeOf_118 rfl hib (by unfold ir; omega) (by omega)) ?_
      refine rx (xs_aload_n dm_Re_typeOf_143 rfl) ?_
      refine rx (rg (v := .inr (some (rA E 0))) dm_Re_typeOf_144 lf_Re_7 rfl) ?_
      refine rx (xs_iload_n dm_Re_typeOf_147 rfl) ?_
      refine rx (rlv 0 (20 + (d : Int)) (by decide) dm_Re_typeOf_148 (by omega) (by show _ < ((10000 : Nat) : Int); omega) (by show q 0 _ = _; rw [hpp, Int.toNat_natCast]; exact sg_hd hs)) ?_
      refine rx (xs_bipush dm_Re_typeOf_149 (by decide)) ?_
      refine rx (xs_icmp_lt_f (tgt := 176) dm_Re_typeOf_151 rfl hib (by unfold ir; omega) (by omega)) ?_
      refine rx (xs_aload_n dm_Re_typeOf_154 rfl) ?_
      refine rx (rg (v := .inr (some (rA E 5))) dm_Re_typeOf_155 lf_Re_25 rfl) ?_
      refine rx (xs_iload dm_Re_typeOf_158 rfl) ?_
      refine rx (xs_iconst dm_Re_typeOf_160) ?_
      refine rx (xs_isub dm_Re_typeOf_161) ?_
      refine rx (xs_aload_n dm_Re_typeOf_162 rfl) ?_
      refine rx (rg (v := .inr (some (rA E 0))) dm_Re_typeOf_163 lf_Re_7 rfl) ?_
      refine rx (xs_iload_n dm_Re_typeOf_166 rfl) ?_
      refine rx (rlv 0 (20 + (d : Int)) (by decide) dm_Re_typeOf_167 (by omega) (by show _ < ((10000 : Nat) : Int); omega) (by show q 0 _ = _; rw [hpp, Int.toNat_natCast]; exact sg_hd hs)) ?_
      refine rx (xs_bipush dm_Re_typeOf_168 (by decide)) ?_
      refine rx (xs_isub dm_Re_typeOf_170) ?_
      refine rx (xs_isub dm_Re_typeOf_171) ?_
      refine rx (rlv 5 (P : Int) (by decide) dm_Re_typeOf_172 (by omega) (by show _ < ((40 : Nat) : Int); omega) (by show B _ = _; rw [← hP]; congr 1; omega)) ?_
      refine rx (xs_goto (tgt := 179) dm_Re_typeOf_173 rfl) ?_
      refine rx (xs_istore dm_Re_typeOf_179 (by decide)) ?_
      show rX E _ 181 [some (.inr (some E.1.length)), some (.inl f), some (.inl st0), some (.inl pp), some (.inl gg), some (.inl rr), some (.inl (P : Int)), o7] [] _ _
      refine rx (xs_iconst dm_Re_typeOf_181) ?_
      refine rx (xs_istore dm_Re_typeOf_182 (by decide)) ?_
      show rX E _ 184 [some (.inr (some E.1.length)), some (.inl f), some (.inl st0), some (.inl pp), some (.inl gg), some (.inl rr), some (.inl (P : Int)), some (.inl 0)] [] _ _
      refine rxq (re_typeOf_b E hrt (by omega) as P _ _ rfl (by omega) (by omega) hat (sg_wb hsP) (by show _ ≤ q 6 5; omega) (by show q 6 5 + _ ≤ _; omega)) ?_
      rintro _ _ ⟨rfl, rfl⟩
      exact ⟨rfl, B, wb_emL q B r⟩
    · subst e
      simp only [List.cons_append, List.append_assoc, List.nil_append, List.length_append, List.length_cons, List.length_nil] at hs hN h1 h2 h2b
      have hs2 := sg_tl hs
      rw [sg_app] at hs2
      refine rx (xs_aload_n dm_Re_typeOf_13 rfl) ?_
      refine rx (rg (v := .inr (some (rA E 0))) dm_Re_typeOf_14 lf_Re_7 rfl) ?_
      refine rx (xs_iload_n dm_Re_typeOf_17 rfl) ?_
      refine rx (rlv 0 12 (by decide) dm_Re_typeOf_18 (by omega) (by show _ < ((10000 : Nat) : Int); omega) (by show q 0 _ = _; rw [hpp, Int.toNat_natCast]; exact sg_hd hs)) ?_
      refine rx (xs_bipush dm_Re_typeOf_19 (by decide)) ?_
      refine rx (xs_icmp_eq_t (tgt := 35) dm_Re_typeOf_21 rfl (by unfold ir; omega) (by unfold ir; omega) (by decide)) ?_
      refine rx (xs_iload_n dm_Re_typeOf_35 rfl) ?_
      refine rx (xs_iconst dm_Re_typeOf_36) ?_
      refine rx (xs_iadd dm_Re_typeOf_37) ?_
      refine rx (xs_istore dm_Re_typeOf_38 (by decide)) ?_
      show rX E _ 40 [some (.inr (some E.1.length)), some (.inl f), some (.inl st0), some (.inl pp), some (.inl gg), some (.inl rr), some (.inl (pp + 1)), o7] [] _ _
      refine rx (xs_aload_n dm_Re_typeOf_40 rfl) ?_
      refine rx (rg (v := .inr (some (rA E 0))) dm_Re_typeOf_41 lf_Re_7 rfl) ?_
      refine rx (xs_iload_n dm_Re_typeOf_44 rfl) ?_
      refine rx (rlv 0 12 (by decide) dm_Re_typeOf_45 (by omega) (by show _ < ((10000 : Nat) : Int); omega) (by show q 0 _ = _; rw [hpp, Int.toNat_natCast]; exact sg_hd hs)) ?_
      refine rx (xs_bipush dm_Re_typeOf_46 (by decide)) ?_
      refine rx (xs_icmp_ne_f (tgt := 57) dm_Re_typeOf_48 rfl (by unfold ir; omega) (by unfold ir; omega) (by decide)) ?_
      refine rx (xs_iinc dm_Re_typeOf_51 rfl (by decide)) ?_
      show rX E _ 54 [some (.inr (some E.1.length)), some (.inl f), some (.inl st0), some (.inl pp), some (.inl (gg + 1)), some (.inl rr), some (.inl (pp + 1)), o7] [] _ _
      refine rx (xs_goto (tgt := 104) dm_Re_typeOf_54 rfl) ?_
      refine rx (xs_iload dm_Re_typeOf_104 rfl) ?_
      refine rx (xs_istore_n dm_Re_typeOf_106 (by decide)) ?_
      show rX E _ 107 [some (.inr (some E.1.length)), some (.inl f), some (.inl st0), some (.inl (pp + 1)), some (.inl (gg + 1)), some (.inl rr), some (.inl (pp + 1)), o7] [] _ _
      refine rx (xs_goto (tgt := 13) dm_Re_typeOf_107 rfl) ?_
      exact ih f1 G _ (c :: as) r (k + 1) q B _ _ _ _ _ (by omega) hf1 (by rw [hA]; rfl) (fun z hz => by
        rcases List.mem_cons.mp hz with e | e
        · subst e; exact hs1
        · exact hat z e) hrt (by omega) (by simp; omega) hrr hs2.1 (by omega) (by omega) (by simp; omega) h3 hB
    · subst e
      simp only [List.cons_append, List.append_assoc, List.nil_append, List.length_append, List.length_cons, List.length_nil] at hs hN h1 h2 h2b
      have hs2 := sg_tl hs
      rw [sg_app] at hs2
      have hlu := isTm_len hu
      refine rx (xs_aload_n dm_Re_typeOf_13 rfl) ?_
      refine rx (rg (v := .inr (some (rA E 0))) dm_Re_typeOf_14 lf_Re_7 rfl) ?_
      refine rx (xs_iload_n dm_Re_typeOf_17 rfl) ?_
      refine rx (rlv 0 13 (by decide) dm_Re_typeOf_18 (by omega) (by show _ < ((10000 : Nat) : Int); omega) (by show q 0 _ = _; rw [hpp, Int.toNat_natCast]; exact sg_hd hs)) ?_
      refine rx (xs_bipush dm_Re_typeOf_19 (by decide)) ?_
      refine rx (xs_icmp_eq_f (tgt := 35) dm_Re_typeOf_21 rfl (by unfold ir; omega) (by unfold ir; omega) (by decide)) ?_
      refine rx (xs_aload_n dm_Re_typeOf_24 rfl) ?_
      refine rx (rg (v := .inr (some (rA E 0))) dm_Re_typeOf_25 lf_Re_7 rfl) ?_
      refine rx (xs_iload_n dm_Re_typeOf_28 rfl) ?_
      refine rx (rlv 0 13 (by decide) dm_Re_typeOf_29 (by omega) (by show _ < ((10000 : Nat) : Int); omega) (by show q 0 _ = _; rw [hpp, Int.toNat_natCast]; exact sg_hd hs)) ?_
      refine rx (xs_bipush dm_Re_typeOf_30 (by decide)) ?_
      refine rx (xs_icmp_ne_f (tgt := 110) dm_Re_typeOf_32 rfl (by unfold ir; omega) (by unfold ir; omega) (by decide)) ?_
      refine rx (xs_iload_n dm_Re_typeOf_35 rfl) ?_
      refine rx (xs_iconst dm_Re_typeOf_36) ?_
      refine rx (xs_iadd dm_Re_typeOf_37) ?_
      refine rx (xs_istore dm_Re_typeOf_38 (by decide)) ?_
      show rX E _ 40 [some (.inr (some E.1.length)), some (.inl f), some (.inl st0), some (.inl pp), some (.inl gg), some (.inl rr), some (.inl (pp + 1)), o7] [] _ _
      refine rx (xs_aload_n dm_Re_typeOf_40 rfl) ?_
      refine rx (rg (v := .inr (some (rA E 0))) dm_Re_typeOf_41 lf_Re_7 rfl) ?_
      refine rx (xs_iload_n dm_Re_typeOf_44 rfl) ?_
      refine rx (rlv 0 13 (by decide) dm_Re_typeOf_45 (by omega) (by show _ < ((10000 : Nat) : Int); omega) (by show q 0 _ = _; rw [hpp, Int.toNat_natCast]; exact sg_hd hs)) ?_
      refine rx (xs_bipush dm_Re_typeOf_46 (by decide)) ?_
      refine rx (xs_icmp_ne_t (tgt := 57) dm_Re_typeOf_48 rfl (by unfold ir; omega) (by unfold ir; omega) (by decide)) ?_
      refine rx (xs_aload_n dm_Re_typeOf_57 rfl) ?_
      refine rx (xs_iload_n dm_Re_typeOf_58 rfl) ?_
      refine rx (xs_iconst dm_Re_typeOf_59) ?_
      refine rx (xs_iadd dm_Re_typeOf_60) ?_
      refine rcV (as := [.inl (pp + 1)]) (rest := []) dm_Re_typeOf_61 lc_Re_skipType lm_Re_36 li_Re_skipType (nr rfl rfl) rfl rfl rfl (nl rfl) (re_skipType (p := k + 1) (sg_wb hs2.1) hs1 (by omega) (by omega)) ?_
      rintro _ _ ⟨rfl, rfl⟩
      show rX E _ 64 [some (.inr (some E.1.length)), some (.inl f), some (.inl st0), some (.inl pp), some (.inl gg), some (.inl rr), some (.inl (pp + 1)), o7] [.inl (((k + 1 : Nat) : Int) + (c.length : Int))] _ _
      refine rx (xs_istore dm_Re_typeOf_64 (by decide)) ?_
      show rX E _ 66 [some (.inr (some E.1.length)), some (.inl f), some (.inl st0), some (.inl pp), some (.inl gg), some (.inl rr), some (.inl (((k + 1 : Nat) : Int) + (c.length : Int))), o7] [] _ _
      refine rx (xs_aload_n dm_Re_typeOf_66 rfl) ?_
      refine rx (rg (v := .inr (some (rA E 5))) dm_Re_typeOf_67 lf_Re_25 rfl) ?_
      refine rx (xs_iload dm_Re_typeOf_70 rfl) ?_
      refine rx (xs_iload_n dm_Re_typeOf_72 rfl) ?_
      refine rx (xs_iconst dm_Re_typeOf_73) ?_
      refine rx (xs_iadd dm_Re_typeOf_74) ?_
      refine rx (rtn 5 G.length (by decide) dm_Re_typeOf_75 (by omega) (by show _ < ((40 : Nat) : Int); omega) (by omega)) ?_
      rw [wb_u3]
      have hB2 : ∀ (d : Nat) (e : List Int), (c :: G)[d]? = some e → ∃ P : Nat, (fun i => if i = G.length then pp + 1 else B i) ((c :: G).length - 1 - d) = P ∧ sg q P e ∧ (P : Int) + (e.length : Int) ≤ q 6 5 := by
        intro d e hde
        cases d with
        | zero =>
          simp at hde
          subst hde
          exact ⟨k + 1, by simp; omega, hs2.1, by omega⟩
        | succ d =>
          simp at hde
          obtain ⟨P, p1, p2, p3⟩ := hB d e hde
          have hdl := (List.getElem?_eq_some_iff.mp hde).1
          refine ⟨P, ?_, p2, p3⟩
          have e1 : (c :: G).length - 1 - (d + 1) = G.length - 1 - d := by simp; omega
          rw [e1]
          simp only
          rw [if_neg (by omega)]
          exact p1
      generalize (fun i => if i = G.length then pp + 1 else B i) = B2 at hB2 ⊢
      show rX E _ 76 [some (.inr (some E.1.length)), some (.inl f), some (.inl st0), some (.inl pp), some (.inl gg), some (.inl rr), some (.inl (((k + 1 : Nat) : Int) + (c.length : Int))), o7] [] _ _
      refine rx (xs_iinc dm_Re_typeOf_76 rfl (by decide)) ?_
      show rX E _ 79 [some (.inr (some E.1.length)), some (.inl f), some (.inl st0), some (.inl pp), some (.inl gg), some (.inl (rr + 1)), some (.inl (((k + 1 : Nat) : Int) + (c.length : Int))), o7] [] _ _
      refine rx (xs_iload dm_Re_typeOf_79 rfl) ?_
      refine xx_if_le (tgt := 90) dm_Re_typeOf_81 rfl (by unfold ir; omega) (fun hc => ?_) (fun hc => ?_)
      · change rX E _ 90 _ _ _ _
        have has : as = [] := List.length_eq_zero_iff.mp (by omega)
        subst has
        have hr2 : r = 0 :: (c ++ b) := by rw [← hae, hA]; rfl
        subst hr2
        simp only [List.length_cons, List.length_append] at h3
        have w6 : (wb q B2) 6 5 = q 6 5 := rfl
        have o1 := em_out q 0
        have o2 := emL_out (em q 0) c
        refine rx (xs_aload_n dm_Re_typeOf_90 rfl) ?_
        refine rx (xs_iconst dm_Re_typeOf_91) ?_
        refine rcV (as := [.inl 0]) (rest := []) dm_Re_typeOf_92 lc_Re_emit lm_Re_32 li_Re_emit (nr rfl rfl) rfl rfl rfl (nl rfl) (re_emit (x := 0) (by omega) (by omega)) ?_
        rintro _ _ ⟨rfl, rfl⟩
        show rX E _ 95 [some (.inr (some E.1.length)), some (.inl f), some (.inl st0), some (.inl pp), some (.inl gg), some (.inl (rr + 1)), some (.inl (((k + 1 : Nat) : Int) + (c.length : Int))), o7] [] _ _
        rw [wb_em]
        refine rx (xs_aload_n dm_Re_typeOf_95 rfl) ?_
        refine rx (xs_iload_n dm_Re_typeOf_96 rfl) ?_
        refine rx (xs_iconst dm_Re_typeOf_97) ?_
        refine rx (xs_iadd dm_Re_typeOf_98) ?_
        refine rx (xs_iload dm_Re_typeOf_99 rfl) ?_
        have hs3 : sg (em q 0) (k + 1) c := emL_sgo (l := [0]) (by omega) hs2.1 (by omega)
        refine rcV (as := [.inl (pp + 1), .inl (((k + 1 : Nat) : Int) + (c.length : Int))]) (rest := []) dm_Re_typeOf_101 lc_Re_emitRow lm_Re_43 li_Re_emitRow (nr rfl rfl) rfl rfl rfl (nl rfl) (re_emitRow (p := k + 1) (sg_wb hs3) (by omega) (by omega) (by show _ ≤ (em q 0) 6 5; omega) (by show (em q 0) 6 5 + _ ≤ _; omega)) ?_
        rintro _ _ ⟨rfl, rfl⟩
        show rX E _ 104 [some (.inr (some E.1.length)), some (.inl f), some (.inl st0), some (.inl pp), some (.inl gg), some (.inl (rr + 1)), some (.inl (((k + 1 : Nat) : Int) + (c.length : Int))), o7] [] _ _
        rw [wb_emL]
        refine rx (xs_iload dm_Re_typeOf_104 rfl) ?_
        refine rx (xs_istore_n dm_Re_typeOf_106 (by decide)) ?_
        show rX E _ 107 [some (.inr (some E.1.length)), some (.inl f), some (.inl st0), some (.inl (((k + 1 : Nat) : Int) + (c.length : Int))), some (.inl gg), some (.inl (rr + 1)), some (.inl (((k + 1 : Nat) : Int) + (c.length : Int))), o7] [] _ _
        refine rx (xs_goto (tgt := 13) dm_Re_typeOf_107 rfl) ?_
        have keep : ∀ (P : Nat) (e : List Int), sg q P e → (P : Int) + (e.length : Int) ≤ q 6 5 → sg (emL (em q 0) c) P e := fun P e h4 h5 => emL_sgo (by omega) (emL_sgo (l := [0]) (by omega) h4 (by omega)) (by omega)
        refine rxq (ih u (c :: G) b [] b (k + 1 + c.length) (emL (em q 0) c) B2 _ _ _ _ _ (by omega) hu rfl (by simp) hb1 (by omega) (by omega) (by simp; omega) (keep _ _ hs2.2 (by omega)) (by omega) (by simp; omega) (by simp; omega) (by omega) (fun d e hde => ?_)) ?_
        · obtain ⟨P, p1, p2, p3⟩ := hB2 d e hde
          exact ⟨P, p1, keep P e p2 p3, by omega⟩
        · rintro _ _ ⟨rfl, B', rfl⟩
          refine ⟨rfl, B', ?_⟩
          rw [emL_cons, emL_app]
      · change rX E _ 84 _ _ _ _
        obtain ⟨c2, as2, has⟩ : ∃ c2 as2, as = c2 :: as2 := by
          cases as with
          | nil => simp at hgg; omega
          | cons c2 as2 => exact ⟨c2, as2, rfl⟩
        subst has
        have hcc := isTy_fi hs1 (hat c2 List.mem_cons_self) (hae.symm.trans hA)
        simp only [List.length_cons] at hgg h2b
        refine rx (xs_iinc dm_Re_typeOf_84 rfl (by decide)) ?_
        show rX E _ 87 [some (.inr (some E.1.length)), some (.inl f), some (.inl st0), some (.inl pp), some (.inl (gg + (-1))), some (.inl (rr + 1)), some (.inl (((k + 1 : Nat) : Int) + (c.length : Int))), o7] [] _ _
        refine rx (xs_goto (tgt := 104) dm_Re_typeOf_87 rfl) ?_
        refine rx (xs_iload dm_Re_typeOf_104 rfl) ?_
        refine rx (xs_istore_n dm_Re_typeOf_106 (by decide)) ?_
        show rX E _ 107 [some (.inr (some E.1.length)), some (.inl f), some (.inl st0), some (.inl (((k + 1 : Nat) : Int) + (c.length : Int))), some (.inl (gg + (-1))), some (.inl (rr + 1)), some (.inl (((k + 1 : Nat) : Int) + (c.length : Int))), o7] [] _ _
        refine rx (xs_goto (tgt := 13) dm_Re_typeOf_107 rfl) ?_
        exact ih u (c :: G) b as2 r (k + 1 + c.length) q B2 _ _ _ _ _ (by omega) hu hcc.2 (fun z hz => hat z (List.mem_cons_of_mem _ hz)) hrt (by omega) (by omega) (by simp; omega) hs2.2 (by omega) (by simp; omega) (by omega) h3 hB2
set_option maxHeartbeats 4000000 in
set_option maxRecDepth 100000 in
theorem re_typeOf {q : rS} {f : Int} {p : Nat} {t a : List Int} (hs : sg q p t) (ht : isTm [] t a) (hf : f = p) (h1 : (p : Int) + (t.length : Int) ≤ q 6 5) (h2 : t.length ≤ 40) (h3 : q 6 5 + (a.length : Int) ≤ 9000) : rM mm_Re_typeOf [.inl f] q (fun r q' => r = some (.inl (q 6 5)) ∧ ∃ B, q' = wb (emL q a) B) := by
  refine rm rfl (nl rfl) (fun E => ?_)
  show rX E _ 0 [some (.inr (some E.1.length)), some (.inl f), none, none, none, none, none, none] [] _ _
  refine rx (xs_aload_n dm_Re_typeOf_0 rfl) ?_
  refine rx (rg (v := .inl (q 6 5)) dm_Re_typeOf_1 lf_Re_28 rfl) ?_
  refine rx (xs_istore_n dm_Re_typeOf_4 (by decide)) ?_
  show rX E _ 5 [some (.inr (some E.1.length)), some (.inl f), some (.inl (q 6 5)), none, none, none, none, none] [] _ _
  refine rx (xs_iload_n dm_Re_typeOf_5 rfl) ?_
  refine rx (xs_istore_n dm_Re_typeOf_6 (by decide)) ?_
  show rX E _ 7 [some (.inr (some E.1.length)), some (.inl f), some (.inl (q 6 5)), some (.inl f), none, none, none, none] [] _ _
  refine rx (xs_iconst dm_Re_typeOf_7) ?_
  refine rx (xs_istore dm_Re_typeOf_8 (by decide)) ?_
  show rX E _ 10 [some (.inr (some E.1.length)), some (.inl f), some (.inl (q 6 5)), some (.inl f), some (.inl 0), none, none, none] [] _ _
  refine rx (xs_iconst dm_Re_typeOf_10) ?_
  refine rx (xs_istore dm_Re_typeOf_11 (by decide)) ?_
  show rX E _ 13 [some (.inr (some E.1.length)), some (.inl f), some (.inl (q 6 5)), some (.inl f), some (.inl 0), some (.inl 0), none, none] [] _ _
  have k1 := re_typeOf_l (f := f) (st0 := q 6 5) E (t.length + 1) t [] a [] a p q (q 5) f 0 0 none none (by omega) ht rfl (by simp) (isTm_ty ht) hf rfl rfl hs h1 (by simpa using h2) (by simp; omega) h3 (by intro d c h; simp at h)
  rw [wb_self] at k1
  exact k1
