/-! cells -/
def x_fl (own : String) (idx ci k : Nat) : Prop := ∃ (C : String) (T : u_T) (N : Nat), cl_s[ci]? = some (C, T, N) ∧ k < N ∧ (∀ w ∈ u_ws C T N, w ∈ x_ws) ∧ (T k).1 = C ∧ (Cond.fieldLink own idx C (T k).2.1 (T k).2.2.1 ∈ x_ws ∨ ∃ host, Cond.fieldLinkNest own idx C (T k).2.1 (T k).2.2.1 host ∈ x_N)
def x_pl (own nm : String) (idx ci k : Nat) (ty : FieldType) : Prop := ∃ (C : String) (T : u_T) (N : Nat) (ty0 : Nat → FieldType), cl_s[ci]? = some (C, T, N) ∧ k < N ∧ (∀ w ∈ u_ws C T N, w ∈ x_ws) ∧ (T k).1 = C ∧ (∀ j, j < N → parseFieldDescriptor (T j).2.2.1 = some (ty0 j)) ∧ ty0 k = ty ∧ (∀ a, a < N → ∀ b, b < N → a ≠ b → (T a).2.1 ≠ (T b).2.1) ∧ Cond.fieldLink own idx C (T k).2.1 (T k).2.2.1 ∈ x_ws ∧ ((T k).2.2.2 = false ∨ ((T k).2.2.2 = true ∧ nm = "<init>" ∧ C = own))
def x_nl (own : String) (idx ci : Nat) (dv : List xV) : Prop := ∃ (C : String) (T : u_T) (N : Nat) (ty0 : Nat → FieldType), cl_s[ci]? = some (C, T, N) ∧ dv.length = N ∧ (∀ w ∈ u_ws C T N, w ∈ x_ws) ∧ (∀ j, j < N → parseFieldDescriptor (T j).2.2.1 = some (ty0 j)) ∧ (∀ b j, j < N → defaultValue (ty0 j) = vp_V (dv.map (x_v b)) j) ∧ Cond.classLink own idx C ∈ x_ws ∧ Cond.instantiable C N ∈ x_ws ∧ Cond.initialized C ∈ x_ws
def x_cn (t : Nat) : String := if t = 0 then "SequentMachine$Row" else "SequentMachine$Item"
def x_al (own : String) (idx t : Nat) : Prop := t < 2 ∧ Cond.classLink own idx (x_cn t) ∈ x_ws
theorem x_tt (d : xD) {t : Nat} (ht : t < 2) : (x_tys d)[t + 1]? = some (d.2.2 (t + 1), .object (x_cn t)) := by
  rcases (show t = 0 ∨ t = 1 by omega) with rfl | rfl <;> rfl
def x_ft (ty : FieldType) (v : xV) : Prop := ∀ b, narrow ty (x_v b v) = x_v b v ∧ fits ty (x_v b v) = true
theorem x_ft_i (x : Int) : x_ft .int (.inl x) := fun b => ⟨rfl, rfl⟩
theorem x_ft_z0 : x_ft .boolean (.inl 0) := fun b => ⟨by show narrow .boolean (.int (Int32.ofInt 0)) = .int (Int32.ofInt 0); decide +kernel, by show fits .boolean (.int (Int32.ofInt 0)) = true; decide +kernel⟩
theorem x_ft_z1 : x_ft .boolean (.inl 1) := fun b => ⟨by show narrow .boolean (.int (Int32.ofInt 1)) = .int (Int32.ofInt 1); decide +kernel, by show fits .boolean (.int (Int32.ofInt 1)) = true; decide +kernel⟩
theorem x_ft_o (n : String) (r : Option Nat) : x_ft (.object n) (.inr r) := fun b => by cases r <;> exact ⟨rfl, rfl⟩
theorem x_ft_a (t : FieldType) (r : Option Nat) : x_ft (.array t) (.inr r) := fun b => by cases r <;> exact ⟨rfl, rfl⟩
section XC
variable {M : xM} {pc : Nat} {L : List (Option xV)} {st : List xV} {h : xH}
theorem xs_getf {a ci k idx : Nat} {fs : List xV} {v : xV} (hd : decode M.2.1 pc = .ok (.getfield idx, 3)) (hfl : x_fl M.1.cls idx ci k) (ha : h.1[a]? = some (.inr (.inr (ci, fs)))) (hv : fs[k]? = some v) : x_S M pc L (.inr (some a) :: st) h (pc + 3) L (v :: st) h := by
  intro r hf hb
  obtain ⟨hle, hw⟩ := hb
  refine ⟨hle, fun p l e s m args below meth c H locs ls d k0 n0 hC hR hL h1 h2 hq => ?_⟩
  have hC' := hC
  obtain ⟨hx, hbt, hml, hown, hts, hret, hlk, hnm, hK⟩ := hC'
  obtain ⟨C, T, N, hc, hk, hin, hT, hl⟩ := hfl
  rcases hl with hl | ⟨host, hl⟩
  · exact va_get hx hbt hts (fun w hw' => List.mem_cons_of_mem _ (hin w hw')) hown hK.1 (hR.sing ha) 0 rfl hc k hk (hts _ (List.mem_cons_of_mem _ hl)) (fun x hx' => by rw [← hT]; exact hx') (v := x_v d.1 v) (by rw [List.getElem?_map, hv]; rfl) hd (hw p l e s m args below meth c H locs ls d k0 n0 hC hR hL h1 h2 hq)
  · exact va_getN hx hbt hts (fun w hw' => List.mem_cons_of_mem _ (hin w hw')) hown hK.1 (hR.sing ha) 0 rfl hc k hk (va_Nw.use rfl (hK.2.1 _ hl)) (fun x hx' => by rw [← hT]; exact hx') (v := x_v d.1 v) (by rw [List.getElem?_map, hv]; rfl) hd (hw p l e s m args below meth c H locs ls d k0 n0 hC hR hL h1 h2 hq)
theorem xs_putf {a ci k idx : Nat} {fs : List xV} {v : xV} {ty : FieldType} (hd : decode M.2.1 pc = .ok (.putfield idx, 3)) (hp : x_pl M.1.cls M.1.name idx ci k ty) (ha : h.1[a]? = some (.inr (.inr (ci, fs)))) (hkl : k < fs.length) (hfit : x_ft ty v) : x_S M pc L (v :: .inr (some a) :: st) h (pc + 3) L st (h.1.set a (.inr (.inr (ci, fs.set k v))), h.2) := by
  intro r hf hb
  obtain ⟨hle, hw⟩ := hb
  refine ⟨by simpa using hle, fun p l e s m args below meth c H locs ls d k0 n0 hC hR hL h1 h2 hq => ?_⟩
  have hC' := hC
  obtain ⟨hx, hbt, hml, hown, hts, hret, hlk, hnm, hK⟩ := hC'
  obtain ⟨C, T, N, ty0, hc, hk, hin, hT, hty, hte, hnn, hl, hfin⟩ := hp
  subst hte
  have hin' : ∀ w ∈ u_ws C T N, w ∈ x_wM M := fun w hw' => List.mem_cons_of_mem _ (hin w hw')
  have hap := va_apart (own := M.1.cls) hts hin' ty0 hty hnn hK.1 hc
  obtain ⟨r0, g1, cell, q1, q2, q3, q4⟩ := hR.2 a _ ha
  have hr : r0 = (C, T, N) := Option.some.inj (g1.symm.trans hc)
  subst hr
  obtain ⟨hS, hfc, kC, hkC, hkind⟩ := hK.1.1 ci _ hc
  obtain ⟨cf, kf, fi, f, hi, hsl⟩ := hS k hk
  have hst := (u_facts hfc hkC (u_lays hts hin' hk) hi).1
  have hlay := hts _ (hin' _ (u_in_lay hk))
  unfold u_lay at hlay
  have hla : a < h.1.length := (List.getElem?_eq_some_iff.mp ha).1
  have hkk : ∀ H' : Heap, H'[d.1 + a]? = some (cell.setSlot f.slot (x_v d.1 v)) → H'.size = H.size → (∀ q : Nat, q ≠ d.1 + a → H'[q]? = H[q]?) → W p l e (x_rm M (hf.1.length - k0) (hf.2 - n0)) s m args below meth c H' (locs ++ [⟨d.1 + a, f.slot⟩]) (h.1.length - k0) (h.2 - n0) (MQ below (x_Q d r hf) args s (hf.1.length - k0) (hf.2 - n0) (fun q => d.1 ≤ q)) (F0 m (pc + 3) ls (st.map (x_v d.1))) := by
    intro H' e1 e2 e3
    rw [hsl] at e1
    refine W.cs (by rw [List.length_set]) rfl (hw p l e s m args below meth c H' (locs ++ [⟨d.1 + a, f.slot⟩]) ls d k0 n0 hC (hR.set hla e2 e3 ?_) hL (by rw [List.length_set]; exact h1) h2 (t_lc hq (Nat.le_add_right _ _)))
    exact ⟨_, hc, t_OB.to (V := updV (vp_V (fs.map (x_v d.1))) k (x_v d.1 v)) ⟨_, e1, q2, q3, t_set q4 hap hk _⟩ (fun j _ => by rw [vp_updV_set (by rw [List.length_map]; exact hkl), ← List.map_set])⟩
  rcases hfin with hfin | ⟨hfin, hn, hCo⟩
  · rw [if_neg (by rw [hfin]; decide)] at hlay
    have h6 := u_store hfc hkC hkind hlay hi (hty k hk) (hfit d.1).1 (hfit d.1).2
    exact W.putK hx hbt (f := f) ⟨hown, hts _ (List.mem_cons_of_mem _ hl), ⟨_, _, _, by rw [← hT]; exact hi⟩, hst⟩ (by rw [q2]; exact h6) q1 q3 (by rw [hsl]; exact k2_hasslot (q4 k hk)) rfl rfl hd hkk
  · rw [if_pos hfin] at hlay
    have hcf : m.cls = cf := by
      obtain ⟨_, _, c', _, _, _, -, -, hf', -, -, -, hown2, -⟩ := Cond.laysFinal_spec hlay
      have e1 : c' = cf := by have := hi.symm.trans hf'; simp at this; exact this.1.symm
      rw [hT, hCo] at hown2
      rw [← e1]
      exact Option.some.inj (hown.symm.trans hown2)
    have h6 := u_fits hfc hkC hkind (Or.inr hlay) hi (hty k hk) (hfit d.1).1 (hfit d.1).2
    exact W.putFinK hx hbt hown (hts _ (List.mem_cons_of_mem _ hl)) (by rw [← hT]; exact hi) hst hcf (hnm.trans hn) (by rw [q2]; exact h6) q1 q3 (by rw [hsl]; exact k2_hasslot (q4 k hk)) rfl rfl hd hkk
theorem xs_new {ci idx : Nat} {dv : List xV} (hd : decode M.2.1 pc = .ok (.new idx, 3)) (hn : x_nl M.1.cls idx ci dv) : x_S M pc L st h (pc + 3) L (.inr (some h.1.length) :: st) (h.1 ++ [.inr (.inr (ci, dv))], h.2 + dv.length) := by
  intro r hf hb
  obtain ⟨hle, hw⟩ := hb
  simp only [List.length_append, List.length_cons, List.length_nil] at hle
  refine ⟨by omega, fun p l e s m args below meth c H locs ls d k0 n0 hC hR hL h1 h2 hq => ?_⟩
  have hC' := hC
  obtain ⟨hx, hbt, hml, hown, hts, hret, hlk, hnm, hK⟩ := hC'
  obtain ⟨C, T, N, ty0, hc, hN, hin, hty, hdv, hcl, hins, hini⟩ := hn
  have hin' : ∀ w ∈ u_ws C T N, w ∈ x_wM M := fun w hw' => List.mem_cons_of_mem _ (hin w hw')
  have hKn := hK.1.1 ci _ hc
  subst hN
  refine W.newcK hx hbt hown (hts _ (List.mem_cons_of_mem _ hcl)) (hts _ (List.mem_cons_of_mem _ hins)) (hts _ (List.mem_cons_of_mem _ hini)) rfl hd (by show _ ≤ hf.1.length - k0; omega) (by show _ ≤ hf.2 - n0; omega) hKn.2.1 rfl fun H1 kC hkC e1 z1 o1 => ?_
  have k := hw p l e s m args below meth c H1 locs ls d k0 n0 hC (hR.push z1 o1 ⟨_, hc, (u_born ty0 hts hin' hKn hkC e1 hty).to (fun j hj => hdv d.1 j hj)⟩) hL (by simp; omega) (by simp; omega) hq
  refine W.cs (cells' := (h.1 ++ ([Sum.inr (Sum.inr (ci, dv))] : List xC)).length - k0) (slots' := h.2 + dv.length - n0) (by simp; omega) (by omega) ?_
  rw [hR.1]
  exact k
theorem xs_newarr {idx : Nat} {n : Int} (hd : decode M.2.1 pc = .ok (.newarray .int, 2)) (hA : Cond.arrayClass .int ∈ x_ws) (h0 : 0 ≤ n) (hn1 : n ≤ 100000) : x_S M pc L (.inl n :: st) h (pc + 2) L (.inr (some h.1.length) :: st) (h.1 ++ [.inl (List.replicate n.toNat 0)], h.2 + n.toNat) := by
  intro r hf hb
  obtain ⟨hle, hw⟩ := hb
  simp only [List.length_append, List.length_cons, List.length_nil] at hle
  refine ⟨by omega, fun p l e s m args below meth c H locs ls d k0 n0 hC hR hL h1 h2 hq => ?_⟩
  have hC' := hC
  obtain ⟨hx, hbt, hml, hown, hts, hret, hlk, hnm, hK⟩ := hC'
  have hcl := x_cl h0 (by omega)
  refine va_newaK (atype := .int) (N := n.toNat) hx hbt (hts _ (List.mem_cons_of_mem _ hA)) rfl hd rfl (x_n0 h0 (by omega)) hcl (by show n.toNat * 4 ≤ _; omega) (by show _ ≤ hf.1.length - k0; omega) (by show _ ≤ hf.2 - n0; omega) rfl fun H1 cA e1 z1 o1 hAr hNm => ?_
  have hcA : cA = d.2.2 0 := Option.some.inj (hNm.symm.trans (hK.1.2 0 _ rfl).2)
  subst hcA
  have k := hw p l e s m args below meth c H1 locs ls d k0 n0 hC (hR.push (c' := .inl (List.replicate n.toNat 0)) z1 o1 (by
    show H1[H.size]? = some (vp_cell _ _)
    rw [e1, vp_cell_i, List.length_replicate]
    congr 2
    funext j
    rw [List.getD_eq_getElem?_getD, List.getElem?_replicate]
    split <;> rfl)) hL (by simp; omega) (by simp; omega) hq
  refine W.cs (cells' := (h.1 ++ ([Sum.inl (List.replicate n.toNat 0)] : List xC)).length - k0) (slots' := h.2 + n.toNat - n0) (by simp; omega) (by omega) ?_
  rw [hR.1]
  exact k
theorem xs_anew {idx t : Nat} {n : Int} (hd : decode M.2.1 pc = .ok (.anewarray idx, 3)) (hA : x_al M.1.cls idx t) (h0 : 0 ≤ n) (hn1 : n ≤ 100000) : x_S M pc L (.inl n :: st) h (pc + 3) L (.inr (some h.1.length) :: st) (h.1 ++ [.inr (.inl (t, List.replicate n.toNat none))], h.2 + n.toNat) := by
  intro r hf hb
  obtain ⟨hle, hw⟩ := hb
  simp only [List.length_append, List.length_cons, List.length_nil] at hle
  refine ⟨by omega, fun p l e s m args below meth c H locs ls d k0 n0 hC hR hL h1 h2 hq => ?_⟩
  have hC' := hC
  obtain ⟨hx, hbt, hml, hown, hts, hret, hlk, hnm, hK⟩ := hC'
  obtain ⟨ht, hcl⟩ := hA
  have hcn := x_cl h0 (by omega)
  have hov : va_AO (x_cn t) s := by
    rcases (show t = 0 ∨ t = 1 by omega) with rfl | rfl
    · exact hK.2.2.1
    · exact hK.2.2.2.1
  refine W.anew hx hbt hown (hts _ (List.mem_cons_of_mem _ hcl)) (va_AO.use hov) rfl hd rfl (x_n0 h0 (by omega)) (by rw [hcn]; omega) (by show _ ≤ hf.1.length - k0; omega) (by show _ ≤ hf.2 - n0; rw [hcn]; omega) fun cA kA comp f1 f2 f3 f4 => ?_
  obtain ⟨-, kA', comp', -, -, -, g4⟩ := hK.1.2 (t + 1) _ (x_tt d ht)
  have hcA : cA = d.2.2 (t + 1) := Option.some.inj (f1.symm.trans g4)
  subst hcA
  rw [hcn]
  generalize hH1 : H.push ({ cls := d.2.2 (t + 1), slots := Array.replicate n.toNat .null, vm := .none } : Cell) = H1
  have z1 : H1.size = H.size + 1 := by rw [← hH1, Array.size_push]
  have e1 : H1[H.size]? = some (arrV (d.2.2 (t + 1)) n.toNat (fun _ => .null)) := by rw [← hH1, Array.getElem?_push_size, ← arrV_new]
  have o1 : ∀ q : Nat, q < H.size → H1[q]? = H[q]? := fun q hq => by rw [← hH1, Array.getElem?_push, if_neg (Nat.ne_of_lt hq)]
  have k := hw p l e s m args below meth c H1 locs ls d k0 n0 hC (hR.push (c' := .inr (.inl (t, List.replicate n.toNat none))) z1 o1 (by
    show H1[H.size]? = some (vp_cell _ _)
    rw [e1, vp_cell_q, List.length_replicate]
    congr 2
    funext j
    rw [List.getD_eq_getElem?_getD, List.getElem?_replicate]
    split <;> rfl)) hL (by simp; omega) (by simp; omega) hq
  refine W.cs (cells' := (h.1 ++ ([Sum.inr (Sum.inl (t, List.replicate n.toNat none))] : List xC)).length - k0) (slots' := h.2 + n.toNat - n0) (by simp; omega) (by omega) ?_
  rw [hR.1]
  exact k
theorem xs_alenI {a : Nat} {q : List Int} (hd : decode M.2.1 pc = .ok (.arraylength, 1)) (ha : h.1[a]? = some (.inl q)) : x_S M pc L (.inr (some a) :: st) h (pc + 1) L (.inl (q.length : Int) :: st) h := by
  intro r hf hb
  obtain ⟨hle, hw⟩ := hb
  refine ⟨hle, fun p l e s m args below meth c H locs ls d k0 n0 hC hR hL h1 h2 hq => ?_⟩
  have hC' := hC
  obtain ⟨hx, hbt, hml, hown, hts, hret, hlk, hnm, hK⟩ := hC'
  exact va_alen hx hbt hK.1 (hR.sing ha) 0 0 rfl rfl (by rw [← Int32.ofInt_eq_ofNat]) hd (hw p l e s m args below meth c H locs ls d k0 n0 hC hR hL h1 h2 hq)
theorem xs_alenR {a t : Nat} {q : List (Option Nat)} (hd : decode M.2.1 pc = .ok (.arraylength, 1)) (ht : t < 2) (ha : h.1[a]? = some (.inr (.inl (t, q)))) : x_S M pc L (.inr (some a) :: st) h (pc + 1) L (.inl (q.length : Int) :: st) h := by
  intro r hf hb
  obtain ⟨hle, hw⟩ := hb
  refine ⟨hle, fun p l e s m args below meth c H locs ls d k0 n0 hC hR hL h1 h2 hq => ?_⟩
  have hC' := hC
  obtain ⟨hx, hbt, hml, hown, hts, hret, hlk, hnm, hK⟩ := hC'
  exact va_alen hx hbt hK.1 (hR.sing ha) 0 (t + 1) rfl (x_tt d ht) (by rw [← Int32.ofInt_eq_ofNat]) hd (hw p l e s m args below meth c H locs ls d k0 n0 hC hR hL h1 h2 hq)
theorem xs_iald {a : Nat} {q : List Int} {j x : Int} (hd : decode M.2.1 pc = .ok (.iaload, 1)) (ha : h.1[a]? = some (.inl q)) (h0 : 0 ≤ j) (hj : q[j.toNat]? = some x) (hql : q.length < 2147483648) : x_S M pc L (.inl j :: .inr (some a) :: st) h (pc + 1) L (.inl x :: st) h := by
  intro r hf hb
  obtain ⟨hle, hw⟩ := hb
  refine ⟨hle, fun p l e s m args below meth c H locs ls d k0 n0 hC hR hL h1 h2 hq => ?_⟩
  have hC' := hC
  obtain ⟨hx, hbt, hml, hown, hts, hret, hlk, hnm, hK⟩ := hC'
  have hlt : j.toNat < q.length := (List.getElem?_eq_some_iff.mp hj).1
  refine va_iald hx hbt hK.1 (hR.sing ha) 0 0 rfl rfl (x_in h0 hlt hql) hd ?_
  have e1 : Int32.ofInt (q.getD (Int32.ofInt j).toNatClampNeg 0) = Int32.ofInt x := by rw [x_cl h0 (by omega), List.getD_eq_getElem?_getD, hj]; rfl
  rw [e1]
  exact hw p l e s m args below meth c H locs ls d k0 n0 hC hR hL h1 h2 hq
theorem xs_iast {a : Nat} {q : List Int} {j x : Int} (hd : decode M.2.1 pc = .ok (.iastore, 1)) (ha : h.1[a]? = some (.inl q)) (h0 : 0 ≤ j) (hlt : j.toNat < q.length) (hql : q.length < 2147483648) : x_S M pc L (.inl x :: .inl j :: .inr (some a) :: st) h (pc + 1) L st (h.1.set a (.inl (q.set j.toNat x)), h.2) := by
  intro r hf hb
  obtain ⟨hle, hw⟩ := hb
  refine ⟨by simpa using hle, fun p l e s m args below meth c H locs ls d k0 n0 hC hR hL h1 h2 hq => ?_⟩
  have hC' := hC
  obtain ⟨hx, hbt, hml, hown, hts, hret, hlk, hnm, hK⟩ := hC'
  have hla : a < h.1.length := (List.getElem?_eq_some_iff.mp ha).1
  refine W.iast hx hbt (hR.2 a _ ha) ((hK.1.2 0 _ rfl).1 q.length (fun i => .int (Int32.ofInt (q.getD i 0)))) (fun z => by cases z) (by show ¬ (_ < 0 ∨ (arrV _ _ _).slots.size ≤ _); rw [arrV_size]; exact x_in h0 hlt hql) rfl rfl hd fun H1 e1 z1 o1 => ?_
  refine W.cs (by rw [List.length_set]) rfl (hw p l e s m args below meth c H1 (locs ++ [⟨d.1 + a, (Int32.ofInt j).toNatClampNeg⟩]) ls d k0 n0 hC (hR.set hla z1 o1 ?_) hL (by rw [List.length_set]; exact h1) h2 (t_lc hq (Nat.le_add_right _ _)))
  show H1[d.1 + a]? = some (vp_cell _ _)
  rw [e1]
  rw [vp_cell_i, vp_cell_i, arrV_store, List.length_set, x_cl h0 (by omega)]
  congr 2
  funext i
  by_cases hi : i = j.toNat
  · subst hi
    simp [updV, List.getD_eq_getElem?_getD, List.getElem?_set_self hlt]
  · simp [updV, hi, List.getD_eq_getElem?_getD, List.getElem?_set_ne (Ne.symm hi)]
theorem xs_aald {a t : Nat} {q : List (Option Nat)} {j : Int} {x : Option Nat} (hd : decode M.2.1 pc = .ok (.aaload, 1)) (ht : t < 2) (ha : h.1[a]? = some (.inr (.inl (t, q)))) (h0 : 0 ≤ j) (hj : q[j.toNat]? = some x) (hql : q.length < 2147483648) : x_S M pc L (.inl j :: .inr (some a) :: st) h (pc + 1) L (.inr x :: st) h := by
  intro r hf hb
  obtain ⟨hle, hw⟩ := hb
  refine ⟨hle, fun p l e s m args below meth c H locs ls d k0 n0 hC hR hL h1 h2 hq => ?_⟩
  have hC' := hC
  obtain ⟨hx, hbt, hml, hown, hts, hret, hlk, hnm, hK⟩ := hC'
  have hlt : j.toNat < q.length := (List.getElem?_eq_some_iff.mp hj).1
  refine va_aldq hx hbt hK.1 (hR.sing ha) 0 (t + 1) rfl (x_tt d ht) (x_in h0 hlt hql) hd ?_
  have e1 : x_r d.1 (q.getD (Int32.ofInt j).toNatClampNeg none) = x_r d.1 x := by rw [x_cl h0 (by omega), List.getD_eq_getElem?_getD, hj]; rfl
  rw [e1]
  exact hw p l e s m args below meth c H locs ls d k0 n0 hC hR hL h1 h2 hq
theorem xs_aastN {a t : Nat} {q : List (Option Nat)} {j : Int} (hd : decode M.2.1 pc = .ok (.aastore, 1)) (ht : t < 2) (ha : h.1[a]? = some (.inr (.inl (t, q)))) (h0 : 0 ≤ j) (hlt : j.toNat < q.length) (hql : q.length < 2147483648) : x_S M pc L (.inr none :: .inl j :: .inr (some a) :: st) h (pc + 1) L st (h.1.set a (.inr (.inl (t, q.set j.toNat none))), h.2) := by
  intro r hf hb
  obtain ⟨hle, hw⟩ := hb
  refine ⟨by simpa using hle, fun p l e s m args below meth c H locs ls d k0 n0 hC hR hL h1 h2 hq => ?_⟩
  have hC' := hC
  obtain ⟨hx, hbt, hml, hown, hts, hret, hlk, hnm, hK⟩ := hC'
  have hla : a < h.1.length := (List.getElem?_eq_some_iff.mp ha).1
  refine va_WaastN (C := x_cn t) hx hbt (hR.2 a _ ha) ((hK.1.2 (t + 1) _ (x_tt d ht)).1 q.length (fun i => va_rf (x_r d.1 (q.getD i none)))) (fun z => by cases z) (by show ¬ (_ < 0 ∨ (arrV _ _ _).slots.size ≤ _); rw [arrV_size]; exact x_in h0 hlt hql) rfl rfl hd fun H1 e1 z1 o1 => ?_
  refine W.cs (by rw [List.length_set]) rfl (hw p l e s m args below meth c H1 (locs ++ [⟨d.1 + a, (Int32.ofInt j).toNatClampNeg⟩]) ls d k0 n0 hC (hR.set hla z1 o1 ?_) hL (by rw [List.length_set]; exact h1) h2 (t_lc hq (Nat.le_add_right _ _)))
  show H1[d.1 + a]? = some (vp_cell _ _)
  rw [e1]
  rw [vp_cell_q, vp_cell_q, arrV_store, List.length_set, x_cl h0 (by omega)]
  congr 2
  funext i
  by_cases hi : i = j.toNat
  · subst hi
    simp [updV, List.getD_eq_getElem?_getD, List.getElem?_set_self hlt, va_rf, x_r]
  · simp [updV, hi, List.getD_eq_getElem?_getD, List.getElem?_set_ne (Ne.symm hi)]
theorem xs_aast {a t v ci : Nat} {q : List (Option Nat)} {fs : List xV} {j : Int} (hd : decode M.2.1 pc = .ok (.aastore, 1)) (ht : t < 2) (ha : h.1[a]? = some (.inr (.inl (t, q)))) (hv : h.1[v]? = some (.inr (.inr (ci, fs)))) (hci : (cl_s[ci]?).map (fun z => z.1) = some (x_cn t)) (h0 : 0 ≤ j) (hlt : j.toNat < q.length) (hql : q.length < 2147483648) : x_S M pc L (.inr (some v) :: .inl j :: .inr (some a) :: st) h (pc + 1) L st (h.1.set a (.inr (.inl (t, q.set j.toNat (some v)))), h.2) := by
  intro r hf hb
  obtain ⟨hle, hw⟩ := hb
  refine ⟨by simpa using hle, fun p l e s m args below meth c H locs ls d k0 n0 hC hR hL h1 h2 hq => ?_⟩
  have hC' := hC
  obtain ⟨hx, hbt, hml, hown, hts, hret, hlk, hnm, hK⟩ := hC'
  have hla : a < h.1.length := (List.getElem?_eq_some_iff.mp ha).1
  obtain ⟨r0, g0, cellV, g1, g2, g3, -⟩ := hR.2 v _ hv
  rw [g0] at hci
  have hcn : r0.1 = x_cn t := Option.some.inj hci
  have hcls := (hK.1.1 ci r0 g0).2
  obtain ⟨kA, comp, k1, k2, k3, -⟩ := (hK.1.2 (t + 1) _ (x_tt d ht)).2
  have hcomp : comp = d.2.1.1 ci := Option.some.inj (k3.symm.trans (by rw [← hcn]; exact hcls.1))
  subst hcomp
  obtain ⟨kC, hkC, -⟩ := hcls.2
  have hin := x_in h0 hlt hql
  refine W.aast hx hbt (hR.2 a _ ha) (fun z hz => by cases hz) (fun hz => by cases hz) k1 k2 rfl hkC ⟨fun z => hin (Or.inl z), by show _ < (arrV _ _ _).slots.size; rw [arrV_size, x_cl h0 (by omega)]; exact hlt⟩ g1 (fun z hz => by rw [g3] at hz; cases hz) (by rw [g2]; exact hkC) (by rw [g2]; exact va_assign hcls) rfl rfl hd fun H1 e1 z1 o1 => ?_
  refine W.cs (by rw [List.length_set]) rfl (hw p l e s m args below meth c H1 (locs ++ [⟨d.1 + a, (Int32.ofInt j).toNatClampNeg⟩]) ls d k0 n0 hC (hR.set hla z1 o1 ?_) hL (by rw [List.length_set]; exact h1) h2 (t_lc hq (Nat.le_add_right _ _)))
  show H1[d.1 + a]? = some (vp_cell _ _)
  rw [e1]
  rw [vp_cell_q, vp_cell_q, arrV_store, List.length_set, x_cl h0 (by omega)]
  congr 2
  funext i
  by_cases hi : i = j.toNat
  · subst hi
    simp [updV, List.getD_eq_getElem?_getD, List.getElem?_set_self hlt, va_rf, x_r]
  · simp [updV, hi, List.getD_eq_getElem?_getD, List.getElem?_set_ne (Ne.symm hi)]
/-! ends -/
theorem xb_i {x : Int} (hd : decode M.2.1 pc = .ok (.ireturn, 1)) (hr : M.2.2.2.1 = some .int) : x_B M pc L [.inl x] h (some (.inl x)) h := by
  refine ⟨⟨Nat.le_refl _, Nat.le_refl _⟩, fun p l e s m args below meth c H locs ls d k0 n0 hC hR hL h1 h2 hq => ?_⟩
  obtain ⟨hx, hbt, hml, hown, hts, hret, hlk, hnm, hK⟩ := hC
  exact W.iret hx hbt (hret.trans hr) (fun t ht _ => ⟨rfl, by rw [ht]; exact hR⟩) hq hd hlk
theorem xb_z {x : Int} (hd : decode M.2.1 pc = .ok (.ireturn, 1)) (hr : M.2.2.2.1 = some .boolean) (hx01 : x = 0 ∨ x = 1) : x_B M pc L [.inl x] h (some (.inl x)) h := by
  refine ⟨⟨Nat.le_refl _, Nat.le_refl _⟩, fun p l e s m args below meth c H locs ls d k0 n0 hC hR hL h1 h2 hq => ?_⟩
  obtain ⟨hx, hbt, hml, hown, hts, hret, hlk, hnm, hK⟩ := hC
  exact W.zret hx hbt (hret.trans hr) (by rcases hx01 with rfl | rfl <;> decide +kernel) (fun t ht _ => ⟨rfl, by rw [ht]; exact hR⟩) hq hd hlk
theorem xb_v (hd : decode M.2.1 pc = .ok (.return_, 1)) (hr : M.2.2.2.1 = none) : x_B M pc L [] h none h := by
  refine ⟨⟨Nat.le_refl _, Nat.le_refl _⟩, fun p l e s m args below meth c H locs ls d k0 n0 hC hR hL h1 h2 hq => ?_⟩
  obtain ⟨hx, hbt, hml, hown, hts, hret, hlk, hnm, hK⟩ := hC
  exact W.vret hx hbt (hret.trans hr) (fun t ht _ => ⟨rfl, by rw [ht]; exact hR⟩) hq hd hlk
theorem xb_a {x : Option Nat} {ty : FieldType} (hd : decode M.2.1 pc = .ok (.areturn, 1)) (hr : M.2.2.2.1 = some ty) (hty : (∃ n, ty = .object n) ∨ ∃ t, ty = .array t) : x_B M pc L [.inr x] h (some (.inr x)) h := by
  refine ⟨⟨Nat.le_refl _, Nat.le_refl _⟩, fun p l e s m args below meth c H locs ls d k0 n0 hC hR hL h1 h2 hq => ?_⟩
  obtain ⟨hx, hbt, hml, hown, hts, hret, hlk, hnm, hK⟩ := hC
  exact W.aret hx hbt (hret.trans hr) hty (va_rf_or _) (fun t ht _ => ⟨rfl, by rw [ht]; exact hR⟩) hq hd hlk
end XC
