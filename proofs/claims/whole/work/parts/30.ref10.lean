/-! objects of the reference -/
theorem u3_eq (q : rS) (a j : Nat) (x : Int) : (u3 q a j x) a j = x := by simp [u3]
theorem u3_ne {q : rS} {a j a' j' : Nat} {x : Int} (h : ¬ (a' = a ∧ j' = j)) : (u3 q a j x) a' j' = q a' j' := by
  unfold u3
  rw [if_neg h]
theorem mv_len (q : rS) (o i o' j : Nat) : (mvF q o i o' j) 1 (4 * o' + j) = q 1 (4 * o + i) := u3_eq _ _ _ _
theorem mv_mem {q : rS} {o i o' j k : Nat} (hk : (k : Int) < q 1 (4 * o + i)) : (mvF q o i o' j) 0 (160 * o' + 40 * j + k) = q 0 (160 * o + 40 * i + k) := by
  unfold mvF
  rw [u3_ne (by omega), cpF_in (by omega)]
theorem mv_fr {q : rS} {o i o' j a k : Nat} (hb : q 1 (4 * o + i) ≤ 40) (h1 : ¬ (a = 1 ∧ k = 4 * o' + j)) (h2 : ¬ (a = 0 ∧ 160 * o' + 40 * j ≤ k ∧ k < 160 * o' + 40 * j + 40)) : (mvF q o i o' j) a k = q a k := by
  unfold mvF
  rw [u3_ne h1, cpF_out (by omega)]
theorem mv_lok {q : rS} {o i o' j : Nat} (h : lok q) (ho : 4 * o + i < 120) : lok (mvF q o i o' j) := by
  intro k hk
  by_cases hk2 : k = 4 * o' + j
  · subst hk2
    rw [mv_len]
    exact h _ ho
  · rw [mv_fr (h _ ho).2 (by omega) (by omega)]
    exact h k hk
/-- the places of object o -/
def tch (o a k : Nat) : Prop := (a = 2 ∧ k = o) ∨ (a = 3 ∧ k = o) ∨ (a = 1 ∧ 4 * o ≤ k ∧ k < 4 * o + 4) ∨ (a = 0 ∧ 160 * o ≤ k ∧ k < 160 * o + 160)
def rCopy (q q' : rS) (o p : Nat) : Prop := q' 2 p = q 2 o ∧ q' 3 p = q 3 o ∧ (∀ i, i < 4 → q' 1 (4 * p + i) = q 1 (4 * o + i) ∧ ∀ k : Nat, (k : Int) < q 1 (4 * o + i) → q' 0 (160 * p + 40 * i + k) = q 0 (160 * o + 40 * i + k)) ∧ (∀ a k, ¬ tch p a k → q' a k = q a k)
def coF (q : rS) (o p : Nat) : rS := mvF (mvF (mvF (mvF (u3 (u3 q 2 p (q 2 o)) 3 p (q 3 o)) o 0 p 0) o 1 p 1) o 2 p 2) o 3 p 3
set_option maxHeartbeats 4000000 in
set_option maxRecDepth 100000 in
theorem coF_ok {q : rS} {o p : Nat} (hl : lok q) (ho : o < 30) (hp : p < 30) (hne : ¬ o = p) : rCopy q (coF q o p) o p ∧ lok (coF q o p) := by
  have l0 : lok (u3 (u3 q 2 p (q 2 o)) 3 p (q 3 o)) := fun k hk => by rw [u3_ne (by omega), u3_ne (by omega)]; exact hl k hk
  have b0 : ∀ a k, ¬ (a = 2 ∧ k = p) → ¬ (a = 3 ∧ k = p) → (u3 (u3 q 2 p (q 2 o)) 3 p (q 3 o)) a k = q a k := fun a k h1 h2 => by rw [u3_ne h2, u3_ne h1]
  have c0 : (u3 (u3 q 2 p (q 2 o)) 3 p (q 3 o)) 2 p = q 2 o := by rw [u3_ne (by omega), u3_eq]
  have d0 : (u3 (u3 q 2 p (q 2 o)) 3 p (q 3 o)) 3 p = q 3 o := u3_eq _ _ _ _
  unfold coF
  generalize u3 (u3 q 2 p (q 2 o)) 3 p (q 3 o) = q0 at l0 b0 c0 d0 ⊢
  have l1 : lok (mvF q0 o 0 p 0) := mv_lok l0 (by omega)
  have l2 : lok (mvF (mvF q0 o 0 p 0) o 1 p 1) := mv_lok l1 (by omega)
  have l3 : lok (mvF (mvF (mvF q0 o 0 p 0) o 1 p 1) o 2 p 2) := mv_lok l2 (by omega)
  have l4 : lok (mvF (mvF (mvF (mvF q0 o 0 p 0) o 1 p 1) o 2 p 2) o 3 p 3) := mv_lok l3 (by omega)
  have f1 : ∀ a k, ¬ (a = 1 ∧ k = 4 * p + 0) → ¬ (a = 0 ∧ 160 * p + 40 * 0 ≤ k ∧ k < 160 * p + 40 * 0 + 40) → (mvF q0 o 0 p 0) a k = q0 a k := fun a k => mv_fr (l0 _ (by omega)).2
  have f2 : ∀ a k, ¬ (a = 1 ∧ k = 4 * p + 1) → ¬ (a = 0 ∧ 160 * p + 40 * 1 ≤ k ∧ k < 160 * p + 40 * 1 + 40) → (mvF (mvF q0 o 0 p 0) o 1 p 1) a k = (mvF q0 o 0 p 0) a k := fun a k => mv_fr (l1 _ (by omega)).2
  have f3 : ∀ a k, ¬ (a = 1 ∧ k = 4 * p + 2) → ¬ (a = 0 ∧ 160 * p + 40 * 2 ≤ k ∧ k < 160 * p + 40 * 2 + 40) → (mvF (mvF (mvF q0 o 0 p 0) o 1 p 1) o 2 p 2) a k = (mvF (mvF q0 o 0 p 0) o 1 p 1) a k := fun a k => mv_fr (l2 _ (by omega)).2
  have f4 : ∀ a k, ¬ (a = 1 ∧ k = 4 * p + 3) → ¬ (a = 0 ∧ 160 * p + 40 * 3 ≤ k ∧ k < 160 * p + 40 * 3 + 40) → (mvF (mvF (mvF (mvF q0 o 0 p 0) o 1 p 1) o 2 p 2) o 3 p 3) a k = (mvF (mvF (mvF q0 o 0 p 0) o 1 p 1) o 2 p 2) a k := fun a k => mv_fr (l3 _ (by omega)).2
  have m1 := mv_len q0 o 0 p 0
  have m2 := mv_len (mvF q0 o 0 p 0) o 1 p 1
  have m3 := mv_len (mvF (mvF q0 o 0 p 0) o 1 p 1) o 2 p 2
  have m4 := mv_len (mvF (mvF (mvF q0 o 0 p 0) o 1 p 1) o 2 p 2) o 3 p 3
  have n1 : ∀ k : Nat, (k : Int) < q0 1 (4 * o + 0) → (mvF q0 o 0 p 0) 0 (160 * p + 40 * 0 + k) = q0 0 (160 * o + 40 * 0 + k) := fun k => mv_mem
  have n2 : ∀ k : Nat, (k : Int) < (mvF q0 o 0 p 0) 1 (4 * o + 1) → (mvF (mvF q0 o 0 p 0) o 1 p 1) 0 (160 * p + 40 * 1 + k) = (mvF q0 o 0 p 0) 0 (160 * o + 40 * 1 + k) := fun k => mv_mem
  have n3 : ∀ k : Nat, (k : Int) < (mvF (mvF q0 o 0 p 0) o 1 p 1) 1 (4 * o + 2) → (mvF (mvF (mvF q0 o 0 p 0) o 1 p 1) o 2 p 2) 0 (160 * p + 40 * 2 + k) = (mvF (mvF q0 o 0 p 0) o 1 p 1) 0 (160 * o + 40 * 2 + k) := fun k => mv_mem
  have n4 : ∀ k : Nat, (k : Int) < (mvF (mvF (mvF q0 o 0 p 0) o 1 p 1) o 2 p 2) 1 (4 * o + 3) → (mvF (mvF (mvF (mvF q0 o 0 p 0) o 1 p 1) o 2 p 2) o 3 p 3) 0 (160 * p + 40 * 3 + k) = (mvF (mvF (mvF q0 o 0 p 0) o 1 p 1) o 2 p 2) 0 (160 * o + 40 * 3 + k) := fun k => mv_mem
  refine ⟨⟨?_, ?_, ?_, ?_⟩, l4⟩
  · rw [f4 _ _ (by omega) (by omega), f3 _ _ (by omega) (by omega), f2 _ _ (by omega) (by omega), f1 _ _ (by omega) (by omega), c0]
  · rw [f4 _ _ (by omega) (by omega), f3 _ _ (by omega) (by omega), f2 _ _ (by omega) (by omega), f1 _ _ (by omega) (by omega), d0]
  · intro i hi
    have b1 : 0 ≤ q 1 (4 * o + i) ∧ q 1 (4 * o + i) ≤ 40 := hl _ (by omega)
    rcases (show i = 0 ∨ i = 1 ∨ i = 2 ∨ i = 3 by omega) with rfl | rfl | rfl | rfl
    · refine ⟨?_, fun k hk => ?_⟩
      · rw [f4 _ _ (by omega) (by omega), f3 _ _ (by omega) (by omega), f2 _ _ (by omega) (by omega), m1, b0 _ _ (by omega) (by omega)]
      · rw [f4 _ _ (by omega) (by omega), f3 _ _ (by omega) (by omega), f2 _ _ (by omega) (by omega), n1 k (by rw [b0 _ _ (by omega) (by omega)]; exact hk), b0 _ _ (by omega) (by omega)]
    · have e1 : (mvF q0 o 0 p 0) 1 (4 * o + 1) = q 1 (4 * o + 1) := by rw [f1 _ _ (by omega) (by omega), b0 _ _ (by omega) (by omega)]
      refine ⟨?_, fun k hk => ?_⟩
      · rw [f4 _ _ (by omega) (by omega), f3 _ _ (by omega) (by omega), m2, e1]
      · rw [f4 _ _ (by omega) (by omega), f3 _ _ (by omega) (by omega), n2 k (by rw [e1]; exact hk), f1 _ _ (by omega) (by omega), b0 _ _ (by omega) (by omega)]
    · have e1 : (mvF (mvF q0 o 0 p 0) o 1 p 1) 1 (4 * o + 2) = q 1 (4 * o + 2) := by rw [f2 _ _ (by omega) (by omega), f1 _ _ (by omega) (by omega), b0 _ _ (by omega) (by omega)]
      refine ⟨?_, fun k hk => ?_⟩
      · rw [f4 _ _ (by omega) (by omega), m3, e1]
      · rw [f4 _ _ (by omega) (by omega), n3 k (by rw [e1]; exact hk), f2 _ _ (by omega) (by omega), f1 _ _ (by omega) (by omega), b0 _ _ (by omega) (by omega)]
    · have e1 : (mvF (mvF (mvF q0 o 0 p 0) o 1 p 1) o 2 p 2) 1 (4 * o + 3) = q 1 (4 * o + 3) := by rw [f3 _ _ (by omega) (by omega), f2 _ _ (by omega) (by omega), f1 _ _ (by omega) (by omega), b0 _ _ (by omega) (by omega)]
      refine ⟨?_, fun k hk => ?_⟩
      · rw [m4, e1]
      · rw [n4 k (by rw [e1]; exact hk), f3 _ _ (by omega) (by omega), f2 _ _ (by omega) (by omega), f1 _ _ (by omega) (by omega), b0 _ _ (by omega) (by omega)]
  · intro a k ht
    unfold tch at ht
    rw [f4 _ _ (by omega) (by omega), f3 _ _ (by omega) (by omega), f2 _ _ (by omega) (by omega), f1 _ _ (by omega) (by omega), b0 _ _ (by omega) (by omega)]
set_option maxHeartbeats 4000000 in
set_option maxRecDepth 100000 in
theorem re_copyObject {q : rS} {oo pp : Int} {o p : Nat} (h1 : oo = o) (h2 : pp = p) (ho : o < 30) (hp : p < 30) (hne : ¬ o = p) (hl : lok q) : rM mm_Re_copyObject [.inl oo, .inl pp] q (fun r q' => r = none ∧ rCopy q q' o p ∧ lok q') := by
  refine rm rfl (nl rfl) (fun E => ?_)
  subst h1
  subst h2
  show rX E _ 0 [some (.inr (some E.1.length)), some (.inl (o : Int)), some (.inl (p : Int)), none] [] _ _
  refine rx (xs_aload_n dm_Re_copyObject_0 rfl) ?_
  refine rx (rg (v := .inr (some (rA E 2))) dm_Re_copyObject_1 lf_Re_16 rfl) ?_
  refine rx (xs_iload_n dm_Re_copyObject_4 rfl) ?_
  refine rx (xs_aload_n dm_Re_copyObject_5 rfl) ?_
  refine rx (rg (v := .inr (some (rA E 2))) dm_Re_copyObject_6 lf_Re_16 rfl) ?_
  refine rx (xs_iload_n dm_Re_copyObject_9 rfl) ?_
  refine rx (rlv 2 (q 2 o) (by decide) dm_Re_copyObject_10 (by omega) (by show _ < ((30 : Nat) : Int); omega) (by rw [Int.toNat_natCast])) ?_
  refine rx (rtn 2 p (by decide) dm_Re_copyObject_11 (by omega) (by show _ < ((30 : Nat) : Int); omega) (by rw [Int.toNat_natCast])) ?_
  refine rx (xs_aload_n dm_Re_copyObject_12 rfl) ?_
  refine rx (rg (v := .inr (some (rA E 3))) dm_Re_copyObject_13 lf_Re_19 rfl) ?_
  refine rx (xs_iload_n dm_Re_copyObject_16 rfl) ?_
  refine rx (xs_aload_n dm_Re_copyObject_17 rfl) ?_
  refine rx (rg (v := .inr (some (rA E 3))) dm_Re_copyObject_18 lf_Re_19 rfl) ?_
  refine rx (xs_iload_n dm_Re_copyObject_21 rfl) ?_
  refine rx (rlv 3 (q 3 o) (by decide) dm_Re_copyObject_22 (by omega) (by show _ < ((30 : Nat) : Int); omega) (by rw [Int.toNat_natCast, u3_ne (by omega)])) ?_
  refine rx (rtn 3 p (by decide) dm_Re_copyObject_23 (by omega) (by show _ < ((30 : Nat) : Int); omega) (by rw [Int.toNat_natCast])) ?_
  refine rx (xs_iconst dm_Re_copyObject_24) ?_
  refine rx (xs_istore_n dm_Re_copyObject_25 (by decide)) ?_
  show rX E _ 26 [some (.inr (some E.1.length)), some (.inl (o : Int)), some (.inl (p : Int)), some (.inl 0)] [] _ _
  have l0 : lok (u3 (u3 q 2 p (q 2 o)) 3 p (q 3 o)) := fun k hk => by rw [u3_ne (by omega), u3_ne (by omega)]; exact hl k hk
  refine rx (xs_iload_n dm_Re_copyObject_26 rfl) ?_
  refine rx (xs_iconst dm_Re_copyObject_27) ?_
  refine rx (xs_icmp_ge_f (tgt := 45) dm_Re_copyObject_28 rfl (by unfold ir; omega) (by unfold ir; omega) (by decide)) ?_
  refine rx (xs_aload_n dm_Re_copyObject_31 rfl) ?_
  refine rx (xs_iload_n dm_Re_copyObject_32 rfl) ?_
  refine rx (xs_iload_n dm_Re_copyObject_33 rfl) ?_
  refine rx (xs_iload_n dm_Re_copyObject_34 rfl) ?_
  refine rx (xs_iload_n dm_Re_copyObject_35 rfl) ?_
  refine rcV (as := [.inl (o : Int), .inl 0, .inl (p : Int), .inl 0]) (rest := []) dm_Re_copyObject_36 lc_Re_movePart lm_Re_62 li_Re_movePart (nr rfl rfl) rfl rfl rfl (nl rfl) (re_movePart (o := o) (i := 0) (o' := p) (j := 0) rfl rfl rfl rfl ho (by decide) hp (by decide) (by omega) l0) ?_
  rintro _ _ ⟨rfl, rfl⟩
  show rX E _ 39 [some (.inr (some E.1.length)), some (.inl (o : Int)), some (.inl (p : Int)), some (.inl 0)] [] _ _
  have l1 : lok (mvF (u3 (u3 q 2 p (q 2 o)) 3 p (q 3 o)) o 0 p 0) := mv_lok l0 (by omega)
  refine rx (xs_iinc dm_Re_copyObject_39 rfl (by decide)) ?_
  show rX E _ 42 [some (.inr (some E.1.length)), some (.inl (o : Int)), some (.inl (p : Int)), some (.inl (0 + 1))] [] _ _
  show rX E _ 42 [some (.inr (some E.1.length)), some (.inl (o : Int)), some (.inl (p : Int)), some (.inl 1)] [] _ _
  refine rx (xs_goto (tgt := 26) dm_Re_copyObject_42 rfl) ?_
  refine rx (xs_iload_n dm_Re_copyObject_26 rfl) ?_
  refine rx (xs_iconst dm_Re_copyObject_27) ?_
  refine rx (xs_icmp_ge_f (tgt := 45) dm_Re_copyObject_28 rfl (by unfold ir; omega) (by unfold ir; omega) (by decide)) ?_
  refine rx (xs_aload_n dm_Re_copyObject_31 rfl) ?_
  refine rx (xs_iload_n dm_Re_copyObject_32 rfl) ?_
  refine rx (xs_iload_n dm_Re_copyObject_33 rfl) ?_
  refine rx (xs_iload_n dm_Re_copyObject_34 rfl) ?_
  refine rx (xs_iload_n dm_Re_copyObject_35 rfl) ?_
  refine rcV (as := [.inl (o : Int), .inl 1, .inl (p : Int), .inl 1]) (rest := []) dm_Re_copyObject_36 lc_Re_movePart lm_Re_62 li_Re_movePart (nr rfl rfl) rfl rfl rfl (nl rfl) (re_movePart (o := o) (i := 1) (o' := p) (j := 1) rfl rfl rfl rfl ho (by decide) hp (by decide) (by omega) l1) ?_
  rintro _ _ ⟨rfl, rfl⟩
  show rX E _ 39 [some (.inr (some E.1.length)), some (.inl (o : Int)), some (.inl (p : Int)), some (.inl 1)] [] _ _
  have l2 : lok (mvF (mvF (u3 (u3 q 2 p (q 2 o)) 3 p (q 3 o)) o 0 p 0) o 1 p 1) := mv_lok l1 (by omega)
  refine rx (xs_iinc dm_Re_copyObject_39 rfl (by decide)) ?_
  show rX E _ 42 [some (.inr (some E.1.length)), some (.inl (o : Int)), some (.inl (p : Int)), some (.inl (1 + 1))] [] _ _
  show rX E _ 42 [some (.inr (some E.1.length)), some (.inl (o : Int)), some (.inl (p : Int)), some (.inl 2)] [] _ _
  refine rx (xs_goto (tgt := 26) dm_Re_copyObject_42 rfl) ?_
  refine rx (xs_iload_n dm_Re_copyObject_26 rfl) ?_
  refine rx (xs_iconst dm_Re_copyObject_27) ?_
  refine rx (xs_icmp_ge_f (tgt := 45) dm_Re_copyObject_28 rfl (by unfold ir; omega) (by unfold ir; omega) (by decide)) ?_
  refine rx (xs_aload_n dm_Re_copyObject_31 rfl) ?_
  refine rx (xs_iload_n dm_Re_copyObject_32 rfl) ?_
  refine rx (xs_iload_n dm_Re_copyObject_33 rfl) ?_
  refine rx (xs_iload_n dm_Re_copyObject_34 rfl) ?_
  refine rx (xs_iload_n dm_Re_copyObject_35 rfl) ?_
  refine rcV (as := [.inl (o : Int), .inl 2, .inl (p : Int), .inl 2]) (rest := []) dm_Re_copyObject_36 lc_Re_movePart lm_Re_62 li_Re_movePart (nr rfl rfl) rfl rfl rfl (nl rfl) (re_movePart (o := o) (i := 2) (o' := p) (j := 2) rfl rfl rfl rfl ho (by decide) hp (by decide) (by omega) l2) ?_
  rintro _ _ ⟨rfl, rfl⟩
  show rX E _ 39 [some (.inr (some E.1.length)), some (.inl (o : Int)), some (.inl (p : Int)), some (.inl 2)] [] _ _
  have l3 : lok (mvF (mvF (mvF (u3 (u3 q 2 p (q 2 o)) 3 p (q 3 o)) o 0 p 0) o 1 p 1) o 2 p 2) := mv_lok l2 (by omega)
  refine rx (xs_iinc dm_Re_copyObject_39 rfl (by decide)) ?_
  show rX E _ 42 [some (.inr (some E.1.length)), some (.inl (o : Int)), some (.inl (p : Int)), some (.inl (2 + 1))] [] _ _
  show rX E _ 42 [some (.inr (some E.1.length)), some (.inl (o : Int)), some (.inl (p : Int)), some (.inl 3)] [] _ _
  refine rx (xs_goto (tgt := 26) dm_Re_copyObject_42 rfl) ?_
  refine rx (xs_iload_n dm_Re_copyObject_26 rfl) ?_
  refine rx (xs_iconst dm_Re_copyObject_27) ?_
  refine rx (xs_icmp_ge_f (tgt := 45) dm_Re_copyObject_28 rfl (by unfold ir; omega) (by unfold ir; omega) (by decide)) ?_
  refine rx (xs_aload_n dm_Re_copyObject_31 rfl) ?_
  refine rx (xs_iload_n dm_Re_copyObject_32 rfl) ?_
  refine rx (xs_iload_n dm_Re_copyObject_33 rfl) ?_
  refine rx (xs_iload_n dm_Re_copyObject_34 rfl) ?_
  refine rx (xs_iload_n dm_Re_copyObject_35 rfl) ?_
  refine rcV (as := [.inl (o : Int), .inl 3, .inl (p : Int), .inl 3]) (rest := []) dm_Re_copyObject_36 lc_Re_movePart lm_Re_62 li_Re_movePart (nr rfl rfl) rfl rfl rfl (nl rfl) (re_movePart (o := o) (i := 3) (o' := p) (j := 3) rfl rfl rfl rfl ho (by decide) hp (by decide) (by omega) l3) ?_
  rintro _ _ ⟨rfl, rfl⟩
  show rX E _ 39 [some (.inr (some E.1.length)), some (.inl (o : Int)), some (.inl (p : Int)), some (.inl 3)] [] _ _
  have l4 : lok (mvF (mvF (mvF (mvF (u3 (u3 q 2 p (q 2 o)) 3 p (q 3 o)) o 0 p 0) o 1 p 1) o 2 p 2) o 3 p 3) := mv_lok l3 (by omega)
  refine rx (xs_iinc dm_Re_copyObject_39 rfl (by decide)) ?_
  show rX E _ 42 [some (.inr (some E.1.length)), some (.inl (o : Int)), some (.inl (p : Int)), some (.inl (3 + 1))] [] _ _
  show rX E _ 42 [some (.inr (some E.1.length)), some (.inl (o : Int)), some (.inl (p : Int)), some (.inl 4)] [] _ _
  refine rx (xs_goto (tgt := 26) dm_Re_copyObject_42 rfl) ?_
  refine rx (xs_iload_n dm_Re_copyObject_26 rfl) ?_
  refine rx (xs_iconst dm_Re_copyObject_27) ?_
  refine rx (xs_icmp_ge_t (tgt := 45) dm_Re_copyObject_28 rfl (by unfold ir; omega) (by unfold ir; omega) (by decide)) ?_
  exact rrv dm_Re_copyObject_45 rfl ⟨rfl, coF_ok hl ho hp hne⟩
