/-! the reference's cells: one object and six arrays, as one function: area (0 mem, 1 len, 2 kinds, 3 hyps, 4 constLen, 5 binder, 6 the numbers) and place -/
abbrev rS : Type := Nat → Nat → Int
abbrev rE : Type := List xC × List xC × Nat
def u3 (q : rS) (a j : Nat) (x : Int) : rS := fun a' j' => if a' = a ∧ j' = j then x else q a' j'
def rN : Nat → Nat
  | 0 => 10000
  | 1 => 120
  | 2 => 30
  | 3 => 30
  | 4 => 7
  | _ => 40
def rA (E : rE) (i : Nat) : Nat := E.1.length + (i + 1)
def rF (E : rE) (q : rS) : List xV := [.inr (some (rA E 0)), .inr (some (rA E 1)), .inr (some (rA E 2)), .inr (some (rA E 3)), .inl (q 6 0), .inl (q 6 1), .inl (q 6 2), .inl (q 6 3), .inl (q 6 4), .inr (some (rA E 4)), .inr (some (rA E 5)), .inl (q 6 5), .inl (q 6 6), .inl (q 6 7), .inl (q 6 8)]
def rL (q : rS) (i : Nat) : List Int := (List.range (rN i)).map (q i)
def rC (E : rE) (q : rS) : List xC := [.inr (.inr (8, rF E q)), .inl (rL q 0), .inl (rL q 1), .inl (rL q 2), .inl (rL q 3), .inl (rL q 4), .inl (rL q 5)]
def rH (E : rE) (q : rS) : xH := (E.1 ++ (rC E q ++ E.2.1), E.2.2)
theorem rL_len (q : rS) (i : Nat) : (rL q i).length = rN i := by simp [rL]
theorem rL_get (q : rS) (i j : Nat) (h : j < rN i) : (rL q i)[j]? = some (q i j) := by simp [rL, h]
theorem rL_set (q : rS) (i j : Nat) (x : Int) : (rL q i).set j x = rL (u3 q i j x) i := by
  apply List.ext_getElem?
  intro k
  by_cases hk : k < rN i
  · rw [rL_get _ _ _ hk, List.getElem?_set, rL_len, rL_get _ _ _ hk]
    by_cases hj : j = k
    · subst hj; simp [hk, u3]
    · have : ¬ k = j := fun e => hj e.symm
      simp [hj, u3, this]
  · rw [List.getElem?_eq_none (by rw [List.length_set, rL_len]; omega), List.getElem?_eq_none (by rw [rL_len]; omega)]
theorem rL_ne (q : rS) {i a : Nat} (j : Nat) (x : Int) (h : ¬ i = a) : rL (u3 q a j x) i = rL q i := by
  unfold rL
  congr 1
  funext k
  simp [u3, h]
theorem rH_o (E : rE) (q : rS) : (rH E q).1[E.1.length]? = some (.inr (.inr (8, rF E q))) := by
  unfold rH
  rw [List.getElem?_append_right (Nat.le_refl _), Nat.sub_self]
  rfl
theorem rC_a (E : rE) (q : rS) (i : Nat) (hi : i < 6) : (rC E q)[i + 1]? = some (.inl (rL q i)) := by
  rcases (show i = 0 ∨ i = 1 ∨ i = 2 ∨ i = 3 ∨ i = 4 ∨ i = 5 by omega) with rfl | rfl | rfl | rfl | rfl | rfl <;> rfl
theorem rH_a (E : rE) (q : rS) (i : Nat) (hi : i < 6) : (rH E q).1[rA E i]? = some (.inl (rL q i)) := by
  unfold rH rA
  rw [List.getElem?_append_right (by omega), show E.1.length + (i + 1) - E.1.length = i + 1 by omega, List.getElem?_append_left (by simp [rC]; omega)]
  exact rC_a E q i hi
theorem rF_ne (E : rE) (q : rS) (a j : Nat) (x : Int) (h : ¬ a = 6) : rF E (u3 q a j x) = rF E q := by
  have h6 : ¬ 6 = a := fun e => h e.symm
  simp [rF, u3, h6]
theorem rH_st (E : rE) (q : rS) (i j : Nat) (x : Int) (hi : i < 6) : ((rH E q).1.set (rA E i) (.inl ((rL q i).set j x)), (rH E q).2) = rH E (u3 q i j x) := by
  unfold rH rA
  rw [rL_set]
  simp only
  rw [List.set_append_right _ _ (by omega), show E.1.length + (i + 1) - E.1.length = i + 1 by omega, List.set_append_left _ _ (by simp [rC]; omega)]
  congr 3
  unfold rC
  rw [rF_ne E q i j x (by omega)]
  rcases (show i = 0 ∨ i = 1 ∨ i = 2 ∨ i = 3 ∨ i = 4 ∨ i = 5 by omega) with rfl | rfl | rfl | rfl | rfl | rfl <;> simp [rL_ne]
def rK : Nat → Nat
  | 0 => 4
  | 1 => 5
  | 2 => 6
  | 3 => 7
  | 4 => 8
  | 5 => 11
  | 6 => 12
  | 7 => 13
  | _ => 14
theorem rF_st (E : rE) (q : rS) (j : Nat) (x : Int) (hj : j < 9) : (rF E q).set (rK j) (.inl x) = rF E (u3 q 6 j x) := by
  rcases (show j = 0 ∨ j = 1 ∨ j = 2 ∨ j = 3 ∨ j = 4 ∨ j = 5 ∨ j = 6 ∨ j = 7 ∨ j = 8 by omega) with rfl | rfl | rfl | rfl | rfl | rfl | rfl | rfl | rfl <;> simp [rF, rK, u3]
theorem rH_so (E : rE) (q : rS) (j : Nat) (x : Int) (hj : j < 9) : ((rH E q).1.set E.1.length (.inr (.inr (8, (rF E q).set (rK j) (.inl x)))), (rH E q).2) = rH E (u3 q 6 j x) := by
  unfold rH
  rw [rF_st E q j x hj]
  simp only
  rw [List.set_append_right _ _ (Nat.le_refl _), Nat.sub_self]
  congr 2
section RS
variable {M : xM} {pc : Nat} {L : List (Option xV)} {st : List xV} {E : rE} {q : rS}
theorem rg {idx k : Nat} {v : xV} (hd : decode M.2.1 pc = .ok (.getfield idx, 3)) (hfl : x_fl M.1.cls idx 8 k) (hv : (rF E q)[k]? = some v) : x_S M pc L (.inr (some E.1.length) :: st) (rH E q) (pc + 3) L (v :: st) (rH E q) :=
  xs_getf hd hfl (rH_o E q) hv
theorem rp {idx : Nat} {x : Int} {ty : FieldType} (j : Nat) (hj : j < 9) (hd : decode M.2.1 pc = .ok (.putfield idx, 3)) (hp : x_pl M.1.cls M.1.name idx 8 (rK j) ty) (hf : x_ft ty (.inl x)) : x_S M pc L (.inl x :: .inr (some E.1.length) :: st) (rH E q) (pc + 3) L st (rH E (u3 q 6 j x)) := by
  have h := xs_putf (L := L) (st := st) hd hp (rH_o E q) (by rcases (show j = 0 ∨ j = 1 ∨ j = 2 ∨ j = 3 ∨ j = 4 ∨ j = 5 ∨ j = 6 ∨ j = 7 ∨ j = 8 by omega) with rfl | rfl | rfl | rfl | rfl | rfl | rfl | rfl | rfl <;> simp [rF, rK]) hf
  rw [rH_so E q j x hj] at h
  exact h
theorem rN_lt (i : Nat) : rN i < 2147483648 := by
  unfold rN
  split <;> omega
theorem rl {j : Int} (i : Nat) (hi : i < 6) (hd : decode M.2.1 pc = .ok (.iaload, 1)) (h0 : 0 ≤ j) (h1 : j < (rN i : Int)) : x_S M pc L (.inl j :: .inr (some (rA E i)) :: st) (rH E q) (pc + 1) L (.inl (q i j.toNat) :: st) (rH E q) :=
  xs_iald hd (rH_a E q i hi) h0 (rL_get q i j.toNat (by omega)) (by rw [rL_len]; exact rN_lt i)
theorem rt {j x : Int} (i : Nat) (hi : i < 6) (hd : decode M.2.1 pc = .ok (.iastore, 1)) (h0 : 0 ≤ j) (h1 : j < (rN i : Int)) : x_S M pc L (.inl x :: .inl j :: .inr (some (rA E i)) :: st) (rH E q) (pc + 1) L st (rH E (u3 q i j.toNat x)) := by
  have h := xs_iast (L := L) (st := st) (x := x) hd (rH_a E q i hi) h0 (by rw [rL_len]; omega) (by rw [rL_len]; exact rN_lt i)
  rw [rH_st E q i j.toNat x hi] at h
  exact h
theorem rlv {j : Int} (i : Nat) (x : Int) (hi : i < 6) (hd : decode M.2.1 pc = .ok (.iaload, 1)) (h0 : 0 ≤ j) (h1 : j < (rN i : Int)) (hx : q i j.toNat = x) : x_S M pc L (.inl j :: .inr (some (rA E i)) :: st) (rH E q) (pc + 1) L (.inl x :: st) (rH E q) := by
  subst hx
  exact rl i hi hd h0 h1
theorem rtn {j x : Int} (i k : Nat) (hi : i < 6) (hd : decode M.2.1 pc = .ok (.iastore, 1)) (h0 : 0 ≤ j) (h1 : j < (rN i : Int)) (hk : j.toNat = k) : x_S M pc L (.inl x :: .inl j :: .inr (some (rA E i)) :: st) (rH E q) (pc + 1) L st (rH E (u3 q i k x)) := by
  subst hk
  exact rt i hi hd h0 h1
end RS
theorem nl {a b : Nat} (h : Nat.ble a b = true) : a ≤ b := Nat.le_of_ble_eq_true h
theorem nr {M M' : xM} (h1 : Nat.ble (M'.2.2.2.2.1 + 1) M.2.2.2.2.1 = true) (h2 : Nat.ble (8 + (M'.2.2.1 + 11) + M'.2.2.2.2.2) M.2.2.2.2.2 = true) : x_rr M M' := ⟨nl h1, nl h2⟩
/-- a contract of the reference: from q, whatever stands beside its cells -/
def rM (M : xM) (as : List xV) (q : rS) (Q : Option xV → rS → Prop) : Prop := ∀ E : rE, x_Mx M (.inr (some E.1.length) :: as) (rH E q) (fun r h => ∃ q', h = rH E q' ∧ Q r q')
def rX (E : rE) (M : xM) (pc : Nat) (L : List (Option xV)) (st : List xV) (q : rS) (Q : Option xV → rS → Prop) : Prop := x_X M pc L st (rH E q) (fun r h => ∃ q', h = rH E q' ∧ Q r q')
section RC
variable {M : xM} {pc : Nat} {L : List (Option xV)} {st : List xV} {E : rE} {q : rS} {Q : Option xV → rS → Prop}
theorem rx {pc' : Nat} {L' : List (Option xV)} {st' : List xV} {q' : rS} (hs : x_S M pc L st (rH E q) pc' L' st' (rH E q')) (hx : rX E M pc' L' st' q' Q) : rX E M pc L st q Q := xx hs hx
theorem rcV {M' : xM} {idx n : Nat} {as rest : List xV} {Q' : Option xV → rS → Prop} (hd : decode M.2.1 pc = .ok (.invokevirtual idx, 3)) (hcd : x_cd M' n) (hml : x_ml M.1.cls idx M'.1) (hin : Cond.instanceMethod M'.1 ∈ x_ws ∧ Cond.selects M'.1.cls M'.1 M'.1 ∈ x_ws) (hrr : x_rr M M') (hC : M'.1.cls = "SequentMachineModel") (hn : as.length = n) (hst : st = as.reverse ++ .inr (some E.1.length) :: rest) (hrest : rest.length ≤ 8) (hM : rM M' as q Q') (kk : ∀ r q', Q' r q' → rX E M (pc + 3) L (r.toList ++ rest) q' Q) : rX E M pc L st q Q := by
  obtain ⟨r, hf, hm, q', e, hq⟩ := hM E
  subst e
  exact xx (xs_callV hd hcd hml hin hrr hn hst (rH_o E q) (by rw [hC]; rfl) hrest hm) (kk r q' hq)
theorem rcS {M' : xM} {idx n : Nat} {as rest : List xV} {r : Option xV} (hd : decode M.2.1 pc = .ok (.invokestatic idx, 3)) (hcd : x_cd M' n) (hml : x_ml M.1.cls idx M'.1) (hin : Cond.static M'.1 ∈ x_ws) (hrr : x_rr M M') (hn : as.length = n) (hst : st = as.reverse ++ rest) (hrest : rest.length ≤ 8) (hM : ∀ h, x_M M' as h r h) (kk : rX E M (pc + 3) L (r.toList ++ rest) q Q) : rX E M pc L st q Q :=
  xx (xs_callS hd hcd hml hin hrr hn hst hrest (hM _)) kk
theorem rri {x : Int} (hd : decode M.2.1 pc = .ok (.ireturn, 1)) (hr : M.2.2.2.1 = some .int) (hq : Q (some (.inl x)) q) : rX E M pc L [.inl x] q Q := ⟨_, _, xb_i hd hr, q, rfl, hq⟩
theorem rrz {x : Int} (hd : decode M.2.1 pc = .ok (.ireturn, 1)) (hr : M.2.2.2.1 = some .boolean) (hx : x = 0 ∨ x = 1) (hq : Q (some (.inl x)) q) : rX E M pc L [.inl x] q Q := ⟨_, _, xb_z hd hr hx, q, rfl, hq⟩
theorem rrv (hd : decode M.2.1 pc = .ok (.return_, 1)) (hr : M.2.2.2.1 = none) (hq : Q none q) : rX E M pc L [] q Q := ⟨_, _, xb_v hd hr, q, rfl, hq⟩
end RC
theorem rm {M : xM} {as : List xV} {q : rS} {Q : Option xV → rS → Prop} (hpl : plainName M.1.cls = true) (hn : as.length + 1 ≤ M.2.2.1) (hb : ∀ E : rE, rX E M 0 (x_en M (.inr (some E.1.length) :: as)) [] q Q) : rM M as q Q := fun E => xmx hpl (by simpa using hn) (hb E)
