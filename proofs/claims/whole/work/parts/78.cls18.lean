/-! shelves: the items by their places, the first at 0 -/
def shF (h : xH) (a ra N n : Nat) (q : List (Option Nat)) : Prop := h.1[a]? = some (.inr (.inr (6, [.inr (some ra), .inl (n : Int)]))) ∧ h.1[ra]? = some (.inr (.inl (1, q))) ∧ q.length = N ∧ n ≤ N ∧ N ≤ 100
set_option maxHeartbeats 4000000 in
set_option maxRecDepth 100000 in
theorem sh_isFull {h : xH} {a ra N n : Nat} {q : List (Option Nat)} (hs : shF h a ra N n q) : x_Mx mm_Sh_isFull [.inr (some a)] h (fun r hf => r = some (.inl (if n = N then 1 else 0)) ∧ hf = h) := by
  refine xmx rfl (nl rfl) ?_
  obtain ⟨c1, c2, y1, y2, y3⟩ := hs
  show x_X _ 0 [some (.inr (some a))] [] _ _
  refine xx (xs_aload_n dm_Sh_isFull_0 rfl) ?_
  refine xx (xs_getf dm_Sh_isFull_1 lf_Sh_15 c1 rfl) ?_
  refine xx (xs_aload_n dm_Sh_isFull_4 rfl) ?_
  refine xx (xs_getf dm_Sh_isFull_5 lf_Sh_9 c1 rfl) ?_
  refine xx (xs_alenR dm_Sh_isFull_8 (by decide) c2) ?_
  refine xx_icmp_lt (tgt := 16) dm_Sh_isFull_9 rfl (by unfold ir; omega) (by unfold ir; omega) (fun hc => ?_) (fun hc => ?_)
  · change x_X _ 16 _ _ _ _
    refine xx (xs_iconst dm_Sh_isFull_16) ?_
    exact ⟨_, _, xb_z dm_Sh_isFull_17 rfl (by omega), by rw [if_neg (by omega)], rfl⟩
  · change x_X _ 12 _ _ _ _
    refine xx (xs_iconst dm_Sh_isFull_12) ?_
    refine xx (xs_goto (tgt := 17) dm_Sh_isFull_13 rfl) ?_
    exact ⟨_, _, xb_z dm_Sh_isFull_17 rfl (by omega), by rw [if_pos (by omega)], rfl⟩
set_option maxHeartbeats 4000000 in
set_option maxRecDepth 100000 in
theorem sh_get {h : xH} {a ra N n : Nat} {q : List (Option Nat)} (hs : shF h a ra N n q) {p : Int} (hp : ir p) : x_Mx mm_Sh_get [.inr (some a), .inl p] h (fun r hf => hf = h ∧ r = some (.inr (if 0 ≤ p ∧ p < (n : Int) then q.getD (p.toNat) none else none))) := by
  refine xmx rfl (nl rfl) ?_
  obtain ⟨c1, c2, y1, y2, y3⟩ := hs
  show x_X _ 0 [some (.inr (some a)), some (.inl p)] [] _ _
  refine xx (xs_iload_n dm_Sh_get_0 rfl) ?_
  refine xx_if_lt (tgt := 21) dm_Sh_get_1 rfl hp (fun hc => ?_) (fun hc => ?_)
  · change x_X _ 21 _ _ _ _
    refine xx (xs_null dm_Sh_get_21) ?_
    exact ⟨_, _, xb_a dm_Sh_get_22 rfl (Or.inl ⟨_, rfl⟩), rfl, by rw [if_neg (by omega)]⟩
  · change x_X _ 4 _ _ _ _
    refine xx (xs_iload_n dm_Sh_get_4 rfl) ?_
    refine xx (xs_aload_n dm_Sh_get_5 rfl) ?_
    refine xx (xs_getf dm_Sh_get_6 lf_Sh_15 c1 rfl) ?_
    refine xx_icmp_ge (tgt := 21) dm_Sh_get_9 rfl hp (by unfold ir; omega) (fun hc2 => ?_) (fun hc2 => ?_)
    · change x_X _ 21 _ _ _ _
      refine xx (xs_null dm_Sh_get_21) ?_
      exact ⟨_, _, xb_a dm_Sh_get_22 rfl (Or.inl ⟨_, rfl⟩), rfl, by rw [if_neg (by omega)]⟩
    · change x_X _ 12 _ _ _ _
      obtain ⟨x, hx⟩ : ∃ x, q[p.toNat]? = some x := ⟨_, List.getElem?_eq_getElem (by omega)⟩
      refine xx (xs_aload_n dm_Sh_get_12 rfl) ?_
      refine xx (xs_getf dm_Sh_get_13 lf_Sh_9 c1 rfl) ?_
      refine xx (xs_iload_n dm_Sh_get_16 rfl) ?_
      refine xx (xs_aald (x := x) dm_Sh_get_17 (by decide) c2 (by omega) hx (by omega)) ?_
      refine xx (xs_goto (tgt := 22) dm_Sh_get_18 rfl) ?_
      exact ⟨_, _, xb_a dm_Sh_get_22 rfl (Or.inl ⟨_, rfl⟩), rfl, by rw [if_pos (by omega), List.getD_eq_getElem?_getD, hx]; rfl⟩
set_option maxHeartbeats 4000000 in
set_option maxRecDepth 100000 in
theorem sh_below {h : xH} {a ra N n : Nat} {q : List (Option Nat)} (hs : shF h a ra N n q) {p : Int} (hp : ir p) : x_Mx mm_Sh_below [.inr (some a), .inl p] h (fun r hf => hf = h ∧ r = some (.inr (if 0 ≤ p ∧ p < (n : Int) then q.getD (n - 1 - p.toNat) none else none))) := by
  refine xmx rfl (nl rfl) ?_
  obtain ⟨c1, c2, y1, y2, y3⟩ := hs
  show x_X _ 0 [some (.inr (some a)), some (.inl p)] [] _ _
  refine xx (xs_iload_n dm_Sh_below_0 rfl) ?_
  refine xx_if_lt (tgt := 28) dm_Sh_below_1 rfl hp (fun hc => ?_) (fun hc => ?_)
  · change x_X _ 28 _ _ _ _
    refine xx (xs_null dm_Sh_below_28) ?_
    exact ⟨_, _, xb_a dm_Sh_below_29 rfl (Or.inl ⟨_, rfl⟩), rfl, by rw [if_neg (by omega)]⟩
  · change x_X _ 4 _ _ _ _
    refine xx (xs_iload_n dm_Sh_below_4 rfl) ?_
    refine xx (xs_aload_n dm_Sh_below_5 rfl) ?_
    refine xx (xs_getf dm_Sh_below_6 lf_Sh_15 c1 rfl) ?_
    refine xx_icmp_ge (tgt := 28) dm_Sh_below_9 rfl hp (by unfold ir; omega) (fun hc2 => ?_) (fun hc2 => ?_)
    · change x_X _ 28 _ _ _ _
      refine xx (xs_null dm_Sh_below_28) ?_
      exact ⟨_, _, xb_a dm_Sh_below_29 rfl (Or.inl ⟨_, rfl⟩), rfl, by rw [if_neg (by omega)]⟩
    · change x_X _ 12 _ _ _ _
      obtain ⟨x, hx⟩ : ∃ x, q[n - 1 - p.toNat]? = some x := ⟨_, List.getElem?_eq_getElem (by omega)⟩
      refine xx (xs_aload_n dm_Sh_below_12 rfl) ?_
      refine xx (xs_getf dm_Sh_below_13 lf_Sh_9 c1 rfl) ?_
      refine xx (xs_aload_n dm_Sh_below_16 rfl) ?_
      refine xx (xs_getf dm_Sh_below_17 lf_Sh_15 c1 rfl) ?_
      refine xx (xs_iconst dm_Sh_below_20) ?_
      refine xx (xs_isub dm_Sh_below_21) ?_
      refine xx (xs_iload_n dm_Sh_below_22 rfl) ?_
      refine xx (xs_isub dm_Sh_below_23) ?_
      refine xx (xs_aald (x := x) dm_Sh_below_24 (by decide) c2 (by omega) (by rw [show ((n : Int) - 1 - p).toNat = n - 1 - p.toNat by omega]; exact hx) (by omega)) ?_
      refine xx (xs_goto (tgt := 29) dm_Sh_below_25 rfl) ?_
      exact ⟨_, _, xb_a dm_Sh_below_29 rfl (Or.inl ⟨_, rfl⟩), rfl, by rw [if_pos (by omega), List.getD_eq_getElem?_getD, hx]; rfl⟩
set_option maxHeartbeats 4000000 in
set_option maxRecDepth 100000 in
theorem sh_drop {h : xH} {a ra N n : Nat} {q : List (Option Nat)} (hs : shF h a ra N n q) {m : Int} (hm : 0 ≤ m ∧ m ≤ 100) : x_Mx mm_Sh_drop [.inr (some a), .inl m] h (fun r hf => r = none ∧ shF hf a ra N (n - m.toNat) q ∧ gr (fun i => i = a) 0 0 h hf) := by
  refine xmx rfl (nl rfl) ?_
  obtain ⟨c1, c2, y1, y2, y3⟩ := hs
  show x_X _ 0 [some (.inr (some a)), some (.inl m)] [] _ _
  refine xx (xs_aload_n dm_Sh_drop_0 rfl) ?_
  refine xx (xs_iconst dm_Sh_drop_1) ?_
  refine xx (xs_aload_n dm_Sh_drop_2 rfl) ?_
  refine xx (xs_getf dm_Sh_drop_3 lf_Sh_15 c1 rfl) ?_
  refine xx (xs_iload_n dm_Sh_drop_6 rfl) ?_
  refine xx (xs_isub dm_Sh_drop_7) ?_
  refine xx (xs_mmax dm_Sh_drop_8 lx_max (by unfold ir; omega) (by unfold ir; omega) ⟨nl rfl, nl rfl⟩) ?_
  rw [show max 0 ((n : Int) - m) = ((n - m.toNat : Nat) : Int) by omega]
  show x_X _ 11 [some (.inr (some a)), some (.inl m)] [.inl ((n - m.toNat : Nat) : Int), .inr (some a)] _ _
  refine xx (xs_putf dm_Sh_drop_11 lp_Sh_15 c1 (nl rfl) (x_ft_i _)) ?_
  obtain ⟨h1, hh1⟩ : ∃ hX : xH, hX = (h.1.set a (.inr (.inr (6, [.inr (some ra), .inl ((n - m.toNat : Nat) : Int)]))), h.2) := ⟨_, rfl⟩
  show x_X _ 14 [some (.inr (some a)), some (.inl m)] [] (h.1.set a (.inr (.inr (6, [.inr (some ra), .inl ((n - m.toNat : Nat) : Int)]))), h.2) _
  rw [← hh1]
  have c2 : h1.1[ra]? = some (.inr (.inl (1, q))) := by rw [hh1]; exact set_kp c2 c1 (by simp)
  have c1_o := c1
  have c1 : h1.1[a]? = some (.inr (.inr (6, [.inr (some ra), .inl ((n - m.toNat : Nat) : Int)]))) := by rw [hh1]; exact set_at c1_o
  exact ⟨_, _, xb_v dm_Sh_drop_14 rfl, rfl, ⟨c1, c2, y1, by omega, y3⟩, hh1 ▸ gr_set⟩
