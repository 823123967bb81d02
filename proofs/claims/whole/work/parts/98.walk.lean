/-! the walk of the law -/
theorem y_rc : 128023 ≤ room_1.cells := by decide
theorem y_rs : 779000 ≤ room_1.slots := by decide
section YW
variable {p : Program} {l : Launch} {e : Env} {s : State} {m : MethodId} {below : List Frame} {meth : Method} {c : Code} {b L : Nat} {xs : Nat → Int32} {d : xD}
def yG (p : Program) (l : Launch) (e : Env) (s : State) (m : MethodId) (b : Nat) (below : List Frame) (meth : Method) (c : Code) (H : Heap) (locs : List Loc) (h : xH) (g : JFrame) : Prop := W p l e room_1 s m #[Value.ref b] below meth c H locs h.1.length h.2 (lw_Z below #[Value.ref b] s) g
def yK (p : Program) (l : Launch) (e : Env) (s : State) (m : MethodId) (b : Nat) (below : List Frame) (meth : Method) (c : Code) (d : xD) (ls : Array Slot) (j : Nat) : Prop := ∀ (h : xH) (M : mS) (q : rS) (H : Heap) (locs : List Loc), inv h M q → x_R d h H → (∀ q ∈ locs, d.1 ≤ q.base) → h.1.length ≤ 23 + 250 * (j + 1) → h.2 ≤ 11000 + 1500 * (j + 1) → yG p l e s m b below meth c H locs h (F0 m 531 ls [])
set_option maxHeartbeats 4000000 in
theorem yc_0 {ls : Array Slot} {h : xH} {M : mS} {q : rS} {H : Heap} {locs : List Loc} {j : Nat} (hC : yC p s m #[Value.ref b] c d) (hX : va_X b L xs s s.heap) (hb : b < s.heap.size) (hL : L ≤ 2048) (hj : 4 * j + 4 ≤ L) (hv : inv h M q) (hR : x_R d h H) (hq : ∀ q ∈ locs, d.1 ≤ q.base) (hls : lv_has ls 4 [(3, .int (Int32.ofInt ((4 * j : Nat) : Int))), (2, .ref (d.1 + 16)), (1, .ref (d.1 + 0)), (0, .ref b)]) (hc1 : h.1.length ≤ 23 + 250 * j) (hc2 : h.2 ≤ 11000 + 1500 * j) (kk : yK p l e s m b below meth c d ls j) : yG p l e s m b below meth c H locs h (F0 m 124 ls []) := by
  have rc := y_rc
  have rs := y_rs
  have hx := hC.1
  have hbt := hC.2.1
  have hd1 := hC.2.2.2.2.2.2
  have hq' : ∀ q ∈ locs, s.heap.size ≤ q.base := by rw [← hd1]; exact hq
  obtain ⟨v, h1, h2, M', q', ⟨x1, x2, ⟨f0, c0⟩, ⟨f1, c1⟩, b1, b2, b3, b4, b5, b6⟩, hv'⟩ := kom_type (k := (xs (((4 * j : Nat) : Int) + 1).toNat).toInt) (y_ir _) h M q hv
  refine lv_aload_n hx hbt dl_124 rfl (lv_at hls 2 rfl) ?_
  refine y_arg (k := 1) (lv := []) hx hbt hX hb hq' (lv_at hls 3 rfl) (lv_at hls 0 rfl) (by omega) (by omega) hL dl_125 dl_126 dl_127 dl_128 dl_129 ?_
  refine y_callV (as := [.inl ((xs (((4 * j : Nat) : Int) + 1).toNat).toInt)]) (rest := []) (h := h) (h1 := h1) hC hR hq hls dl_130 lc_Ma_type lm_La_13 li_Ma_type ⟨nl rfl, nl rfl⟩ rfl c0 rfl (nl rfl) x1 ⟨by omega, by omega⟩ (fun H1 locs1 hR1 hq1 => ?_)
  have hq1' : ∀ q ∈ locs1, s.heap.size ≤ q.base := by rw [← hd1]; exact hq1
  refine W.cs (cells' := h1.1.length) (slots' := h1.2) (by omega) (by omega) ?_
  refine lv_aload_n hx hbt dl_133 rfl (lv_at hls 1 rfl) ?_
  refine y_arg (k := 1) (lv := []) hx hbt hX hb hq1' (lv_at hls 3 rfl) (lv_at hls 0 rfl) (by omega) (by omega) hL dl_134 dl_135 dl_136 dl_137 dl_138 ?_
  refine y_callV (as := [.inl ((xs (((4 * j : Nat) : Int) + 1).toNat).toInt)]) (rest := [.int (Int32.ofInt v)]) (h := h1) (h1 := h2) hC hR1 hq1 hls dl_139 lc_Re_type lm_La_17 li_Re_type ⟨nl rfl, nl rfl⟩ rfl c1 rfl (nl rfl) x2 ⟨by omega, by omega⟩ (fun H2 locs2 hR2 hq2 => ?_)
  refine W.cs (cells' := h2.1.length) (slots' := h2.2) (by omega) (by omega) ?_
  exact lv_icmp_eq hx hbt dl_142 (tgt := 531) rfl (fun _ => kk h2 M' q' H2 locs2 hv' hR2 hq2 (by omega) (by omega)) (fun q => absurd rfl q)
set_option maxHeartbeats 4000000 in
theorem yc_1 {ls : Array Slot} {h : xH} {M : mS} {q : rS} {H : Heap} {locs : List Loc} {j : Nat} (hC : yC p s m #[Value.ref b] c d) (hX : va_X b L xs s s.heap) (hb : b < s.heap.size) (hL : L ≤ 2048) (hj : 4 * j + 4 ≤ L) (hv : inv h M q) (hR : x_R d h H) (hq : ∀ q ∈ locs, d.1 ≤ q.base) (hls : lv_has ls 4 [(3, .int (Int32.ofInt ((4 * j : Nat) : Int))), (2, .ref (d.1 + 16)), (1, .ref (d.1 + 0)), (0, .ref b)]) (hc1 : h.1.length ≤ 23 + 250 * j) (hc2 : h.2 ≤ 11000 + 1500 * j) (kk : yK p l e s m b below meth c d ls j) : yG p l e s m b below meth c H locs h (F0 m 147 ls []) := by
  have rc := y_rc
  have rs := y_rs
  have hx := hC.1
  have hbt := hC.2.1
  have hd1 := hC.2.2.2.2.2.2
  have hq' : ∀ q ∈ locs, s.heap.size ≤ q.base := by rw [← hd1]; exact hq
  obtain ⟨v, h1, h2, M', q', ⟨x1, x2, ⟨f0, c0⟩, ⟨f1, c1⟩, b1, b2, b3, b4, b5, b6⟩, hv'⟩ := kom_var (k := (xs (((4 * j : Nat) : Int) + 1).toNat).toInt) (y_ir _) h M q hv
  refine lv_aload_n hx hbt dl_147 rfl (lv_at hls 2 rfl) ?_
  refine y_arg (k := 1) (lv := []) hx hbt hX hb hq' (lv_at hls 3 rfl) (lv_at hls 0 rfl) (by omega) (by omega) hL dl_148 dl_149 dl_150 dl_151 dl_152 ?_
  refine y_callV (as := [.inl ((xs (((4 * j : Nat) : Int) + 1).toNat).toInt)]) (rest := []) (h := h) (h1 := h1) hC hR hq hls dl_153 lc_Ma_var lm_La_18 li_Ma_var ⟨nl rfl, nl rfl⟩ rfl c0 rfl (nl rfl) x1 ⟨by omega, by omega⟩ (fun H1 locs1 hR1 hq1 => ?_)
  have hq1' : ∀ q ∈ locs1, s.heap.size ≤ q.base := by rw [← hd1]; exact hq1
  refine W.cs (cells' := h1.1.length) (slots' := h1.2) (by omega) (by omega) ?_
  refine lv_aload_n hx hbt dl_156 rfl (lv_at hls 1 rfl) ?_
  refine y_arg (k := 1) (lv := []) hx hbt hX hb hq1' (lv_at hls 3 rfl) (lv_at hls 0 rfl) (by omega) (by omega) hL dl_157 dl_158 dl_159 dl_160 dl_161 ?_
  refine y_callV (as := [.inl ((xs (((4 * j : Nat) : Int) + 1).toNat).toInt)]) (rest := [.int (Int32.ofInt v)]) (h := h1) (h1 := h2) hC hR1 hq1 hls dl_162 lc_Re_var lm_La_21 li_Re_var ⟨nl rfl, nl rfl⟩ rfl c1 rfl (nl rfl) x2 ⟨by omega, by omega⟩ (fun H2 locs2 hR2 hq2 => ?_)
  refine W.cs (cells' := h2.1.length) (slots' := h2.2) (by omega) (by omega) ?_
  exact lv_icmp_eq hx hbt dl_165 (tgt := 531) rfl (fun _ => kk h2 M' q' H2 locs2 hv' hR2 hq2 (by omega) (by omega)) (fun q => absurd rfl q)
set_option maxHeartbeats 4000000 in
theorem yc_2 {ls : Array Slot} {h : xH} {M : mS} {q : rS} {H : Heap} {locs : List Loc} {j : Nat} (hC : yC p s m #[Value.ref b] c d) (hX : va_X b L xs s s.heap) (hb : b < s.heap.size) (hL : L ≤ 2048) (hj : 4 * j + 4 ≤ L) (hv : inv h M q) (hR : x_R d h H) (hq : ∀ q ∈ locs, d.1 ≤ q.base) (hls : lv_has ls 4 [(3, .int (Int32.ofInt ((4 * j : Nat) : Int))), (2, .ref (d.1 + 16)), (1, .ref (d.1 + 0)), (0, .ref b)]) (hc1 : h.1.length ≤ 23 + 250 * j) (hc2 : h.2 ≤ 11000 + 1500 * j) (kk : yK p l e s m b below meth c d ls j) : yG p l e s m b below meth c H locs h (F0 m 170 ls []) := by
  have rc := y_rc
  have rs := y_rs
  have hx := hC.1
  have hbt := hC.2.1
  have hd1 := hC.2.2.2.2.2.2
  have hq' : ∀ q ∈ locs, s.heap.size ≤ q.base := by rw [← hd1]; exact hq
  obtain ⟨v, h1, h2, M', q', ⟨x1, x2, ⟨f0, c0⟩, ⟨f1, c1⟩, b1, b2, b3, b4, b5, b6⟩, hv'⟩ := kom_constant (k := (xs (((4 * j : Nat) : Int) + 1).toNat).toInt) (y_ir _) h M q hv
  refine lv_aload_n hx hbt dl_170 rfl (lv_at hls 2 rfl) ?_
  refine y_arg (k := 1) (lv := []) hx hbt hX hb hq' (lv_at hls 3 rfl) (lv_at hls 0 rfl) (by omega) (by omega) hL dl_171 dl_172 dl_173 dl_174 dl_175 ?_
  refine y_callV (as := [.inl ((xs (((4 * j : Nat) : Int) + 1).toNat).toInt)]) (rest := []) (h := h) (h1 := h1) hC hR hq hls dl_176 lc_Ma_constant lm_La_22 li_Ma_constant ⟨nl rfl, nl rfl⟩ rfl c0 rfl (nl rfl) x1 ⟨by omega, by omega⟩ (fun H1 locs1 hR1 hq1 => ?_)
  have hq1' : ∀ q ∈ locs1, s.heap.size ≤ q.base := by rw [← hd1]; exact hq1
  refine W.cs (cells' := h1.1.length) (slots' := h1.2) (by omega) (by omega) ?_
  refine lv_aload_n hx hbt dl_179 rfl (lv_at hls 1 rfl) ?_
  refine y_arg (k := 1) (lv := []) hx hbt hX hb hq1' (lv_at hls 3 rfl) (lv_at hls 0 rfl) (by omega) (by omega) hL dl_180 dl_181 dl_182 dl_183 dl_184 ?_
  refine y_callV (as := [.inl ((xs (((4 * j : Nat) : Int) + 1).toNat).toInt)]) (rest := [.int (Int32.ofInt v)]) (h := h1) (h1 := h2) hC hR1 hq1 hls dl_185 lc_Re_constant lm_La_25 li_Re_constant ⟨nl rfl, nl rfl⟩ rfl c1 rfl (nl rfl) x2 ⟨by omega, by omega⟩ (fun H2 locs2 hR2 hq2 => ?_)
  refine W.cs (cells' := h2.1.length) (slots' := h2.2) (by omega) (by omega) ?_
  exact lv_icmp_eq hx hbt dl_188 (tgt := 531) rfl (fun _ => kk h2 M' q' H2 locs2 hv' hR2 hq2 (by omega) (by omega)) (fun q => absurd rfl q)
set_option maxHeartbeats 4000000 in
theorem yc_3 {ls : Array Slot} {h : xH} {M : mS} {q : rS} {H : Heap} {locs : List Loc} {j : Nat} (hC : yC p s m #[Value.ref b] c d) (hX : va_X b L xs s s.heap) (hb : b < s.heap.size) (hL : L ≤ 2048) (hj : 4 * j + 4 ≤ L) (hv : inv h M q) (hR : x_R d h H) (hq : ∀ q ∈ locs, d.1 ≤ q.base) (hls : lv_has ls 4 [(3, .int (Int32.ofInt ((4 * j : Nat) : Int))), (2, .ref (d.1 + 16)), (1, .ref (d.1 + 0)), (0, .ref b)]) (hc1 : h.1.length ≤ 23 + 250 * j) (hc2 : h.2 ≤ 11000 + 1500 * j) (kk : yK p l e s m b below meth c d ls j) : yG p l e s m b below meth c H locs h (F0 m 193 ls []) := by
  have rc := y_rc
  have rs := y_rs
  have hx := hC.1
  have hbt := hC.2.1
  have hd1 := hC.2.2.2.2.2.2
  have hq' : ∀ q ∈ locs, s.heap.size ≤ q.base := by rw [← hd1]; exact hq
  obtain ⟨v, h1, h2, M', q', ⟨x1, x2, ⟨f0, c0⟩, ⟨f1, c1⟩, b1, b2, b3, b4, b5, b6⟩, hv'⟩ := kom_app h M q hv
  refine lv_aload_n hx hbt dl_193 rfl (lv_at hls 2 rfl) ?_
  refine y_callV (as := []) (rest := []) (h := h) (h1 := h1) hC hR hq hls dl_194 lc_Ma_app lm_La_26 li_Ma_app ⟨nl rfl, nl rfl⟩ rfl c0 rfl (nl rfl) x1 ⟨by omega, by omega⟩ (fun H1 locs1 hR1 hq1 => ?_)
  have hq1' : ∀ q ∈ locs1, s.heap.size ≤ q.base := by rw [← hd1]; exact hq1
  refine W.cs (cells' := h1.1.length) (slots' := h1.2) (by omega) (by omega) ?_
  refine lv_aload_n hx hbt dl_197 rfl (lv_at hls 1 rfl) ?_
  refine y_callV (as := []) (rest := [.int (Int32.ofInt v)]) (h := h1) (h1 := h2) hC hR1 hq1 hls dl_198 lc_Re_app lm_La_30 li_Re_app ⟨nl rfl, nl rfl⟩ rfl c1 rfl (nl rfl) x2 ⟨by omega, by omega⟩ (fun H2 locs2 hR2 hq2 => ?_)
  refine W.cs (cells' := h2.1.length) (slots' := h2.2) (by omega) (by omega) ?_
  exact lv_icmp_eq hx hbt dl_201 (tgt := 531) rfl (fun _ => kk h2 M' q' H2 locs2 hv' hR2 hq2 (by omega) (by omega)) (fun q => absurd rfl q)
set_option maxHeartbeats 4000000 in
theorem yc_4 {ls : Array Slot} {h : xH} {M : mS} {q : rS} {H : Heap} {locs : List Loc} {j : Nat} (hC : yC p s m #[Value.ref b] c d) (hX : va_X b L xs s s.heap) (hb : b < s.heap.size) (hL : L ≤ 2048) (hj : 4 * j + 4 ≤ L) (hv : inv h M q) (hR : x_R d h H) (hq : ∀ q ∈ locs, d.1 ≤ q.base) (hls : lv_has ls 4 [(3, .int (Int32.ofInt ((4 * j : Nat) : Int))), (2, .ref (d.1 + 16)), (1, .ref (d.1 + 0)), (0, .ref b)]) (hc1 : h.1.length ≤ 23 + 250 * j) (hc2 : h.2 ≤ 11000 + 1500 * j) (kk : yK p l e s m b below meth c d ls j) : yG p l e s m b below meth c H locs h (F0 m 206 ls []) := by
  have rc := y_rc
  have rs := y_rs
  have hx := hC.1
  have hbt := hC.2.1
  have hd1 := hC.2.2.2.2.2.2
  have hq' : ∀ q ∈ locs, s.heap.size ≤ q.base := by rw [← hd1]; exact hq
  obtain ⟨v, h1, h2, M', q', ⟨x1, x2, ⟨f0, c0⟩, ⟨f1, c1⟩, b1, b2, b3, b4, b5, b6⟩, hv'⟩ := kom_abs h M q hv
  refine lv_aload_n hx hbt dl_206 rfl (lv_at hls 2 rfl) ?_
  refine y_callV (as := []) (rest := []) (h := h) (h1 := h1) hC hR hq hls dl_207 lc_Ma_abs lm_La_31 li_Ma_abs ⟨nl rfl, nl rfl⟩ rfl c0 rfl (nl rfl) x1 ⟨by omega, by omega⟩ (fun H1 locs1 hR1 hq1 => ?_)
  have hq1' : ∀ q ∈ locs1, s.heap.size ≤ q.base := by rw [← hd1]; exact hq1
  refine W.cs (cells' := h1.1.length) (slots' := h1.2) (by omega) (by omega) ?_
  refine lv_aload_n hx hbt dl_210 rfl (lv_at hls 1 rfl) ?_
  refine y_callV (as := []) (rest := [.int (Int32.ofInt v)]) (h := h1) (h1 := h2) hC hR1 hq1 hls dl_211 lc_Re_abs lm_La_34 li_Re_abs ⟨nl rfl, nl rfl⟩ rfl c1 rfl (nl rfl) x2 ⟨by omega, by omega⟩ (fun H2 locs2 hR2 hq2 => ?_)
  refine W.cs (cells' := h2.1.length) (slots' := h2.2) (by omega) (by omega) ?_
  exact lv_icmp_eq hx hbt dl_214 (tgt := 531) rfl (fun _ => kk h2 M' q' H2 locs2 hv' hR2 hq2 (by omega) (by omega)) (fun q => absurd rfl q)
set_option maxHeartbeats 4000000 in
theorem yc_5 {ls : Array Slot} {h : xH} {M : mS} {q : rS} {H : Heap} {locs : List Loc} {j : Nat} (hC : yC p s m #[Value.ref b] c d) (hX : va_X b L xs s s.heap) (hb : b < s.heap.size) (hL : L ≤ 2048) (hj : 4 * j + 4 ≤ L) (hv : inv h M q) (hR : x_R d h H) (hq : ∀ q ∈ locs, d.1 ≤ q.base) (hls : lv_has ls 4 [(3, .int (Int32.ofInt ((4 * j : Nat) : Int))), (2, .ref (d.1 + 16)), (1, .ref (d.1 + 0)), (0, .ref b)]) (hc1 : h.1.length ≤ 23 + 250 * j) (hc2 : h.2 ≤ 11000 + 1500 * j) (kk : yK p l e s m b below meth c d ls j) : yG p l e s m b below meth c H locs h (F0 m 219 ls []) := by
  have rc := y_rc
  have rs := y_rs
  have hx := hC.1
  have hbt := hC.2.1
  have hd1 := hC.2.2.2.2.2.2
  have hq' : ∀ q ∈ locs, s.heap.size ≤ q.base := by rw [← hd1]; exact hq
  obtain ⟨v, h1, h2, M', q', ⟨x1, x2, ⟨f0, c0⟩, ⟨f1, c1⟩, b1, b2, b3, b4, b5, b6⟩, hv'⟩ := kom_theorem (k := (xs (((4 * j : Nat) : Int) + 1).toNat).toInt) (y_ir _) h M q hv
  refine lv_aload_n hx hbt dl_219 rfl (lv_at hls 2 rfl) ?_
  refine y_arg (k := 1) (lv := []) hx hbt hX hb hq' (lv_at hls 3 rfl) (lv_at hls 0 rfl) (by omega) (by omega) hL dl_220 dl_221 dl_222 dl_223 dl_224 ?_
  refine y_callV (as := [.inl ((xs (((4 * j : Nat) : Int) + 1).toNat).toInt)]) (rest := []) (h := h) (h1 := h1) hC hR hq hls dl_225 lc_Ma_theorem lm_La_35 li_Ma_theorem ⟨nl rfl, nl rfl⟩ rfl c0 rfl (nl rfl) x1 ⟨by omega, by omega⟩ (fun H1 locs1 hR1 hq1 => ?_)
  have hq1' : ∀ q ∈ locs1, s.heap.size ≤ q.base := by rw [← hd1]; exact hq1
  refine W.cs (cells' := h1.1.length) (slots' := h1.2) (by omega) (by omega) ?_
  refine lv_aload_n hx hbt dl_228 rfl (lv_at hls 1 rfl) ?_
  refine y_arg (k := 1) (lv := []) hx hbt hX hb hq1' (lv_at hls 3 rfl) (lv_at hls 0 rfl) (by omega) (by omega) hL dl_229 dl_230 dl_231 dl_232 dl_233 ?_
  refine y_callV (as := [.inl ((xs (((4 * j : Nat) : Int) + 1).toNat).toInt)]) (rest := [.int (Int32.ofInt v)]) (h := h1) (h1 := h2) hC hR1 hq1 hls dl_234 lc_Re_theorem lm_La_38 li_Re_theorem ⟨nl rfl, nl rfl⟩ rfl c1 rfl (nl rfl) x2 ⟨by omega, by omega⟩ (fun H2 locs2 hR2 hq2 => ?_)
  refine W.cs (cells' := h2.1.length) (slots' := h2.2) (by omega) (by omega) ?_
  exact lv_icmp_eq hx hbt dl_237 (tgt := 531) rfl (fun _ => kk h2 M' q' H2 locs2 hv' hR2 hq2 (by omega) (by omega)) (fun q => absurd rfl q)
set_option maxHeartbeats 4000000 in
theorem yc_6 {ls : Array Slot} {h : xH} {M : mS} {q : rS} {H : Heap} {locs : List Loc} {j : Nat} (hC : yC p s m #[Value.ref b] c d) (hX : va_X b L xs s s.heap) (hb : b < s.heap.size) (hL : L ≤ 2048) (hj : 4 * j + 4 ≤ L) (hv : inv h M q) (hR : x_R d h H) (hq : ∀ q ∈ locs, d.1 ≤ q.base) (hls : lv_has ls 4 [(3, .int (Int32.ofInt ((4 * j : Nat) : Int))), (2, .ref (d.1 + 16)), (1, .ref (d.1 + 0)), (0, .ref b)]) (hc1 : h.1.length ≤ 23 + 250 * j) (hc2 : h.2 ≤ 11000 + 1500 * j) (kk : yK p l e s m b below meth c d ls j) : yG p l e s m b below meth c H locs h (F0 m 242 ls []) := by
  have rc := y_rc
  have rs := y_rs
  have hx := hC.1
  have hbt := hC.2.1
  have hd1 := hC.2.2.2.2.2.2
  have hq' : ∀ q ∈ locs, s.heap.size ≤ q.base := by rw [← hd1]; exact hq
  obtain ⟨v, h1, h2, M', q', ⟨x1, x2, ⟨f0, c0⟩, ⟨f1, c1⟩, b1, b2, b3, b4, b5, b6⟩, hv'⟩ := kom_join (k := (xs (((4 * j : Nat) : Int) + 1).toNat).toInt) (y_ir _) h M q hv
  refine lv_aload_n hx hbt dl_242 rfl (lv_at hls 2 rfl) ?_
  refine y_arg (k := 1) (lv := []) hx hbt hX hb hq' (lv_at hls 3 rfl) (lv_at hls 0 rfl) (by omega) (by omega) hL dl_243 dl_244 dl_245 dl_246 dl_247 ?_
  refine y_callV (as := [.inl ((xs (((4 * j : Nat) : Int) + 1).toNat).toInt)]) (rest := []) (h := h) (h1 := h1) hC hR hq hls dl_248 lc_Ma_join lm_La_39 li_Ma_join ⟨nl rfl, nl rfl⟩ rfl c0 rfl (nl rfl) x1 ⟨by omega, by omega⟩ (fun H1 locs1 hR1 hq1 => ?_)
  have hq1' : ∀ q ∈ locs1, s.heap.size ≤ q.base := by rw [← hd1]; exact hq1
  refine W.cs (cells' := h1.1.length) (slots' := h1.2) (by omega) (by omega) ?_
  refine lv_aload_n hx hbt dl_251 rfl (lv_at hls 1 rfl) ?_
  refine y_arg (k := 1) (lv := []) hx hbt hX hb hq1' (lv_at hls 3 rfl) (lv_at hls 0 rfl) (by omega) (by omega) hL dl_252 dl_253 dl_254 dl_255 dl_256 ?_
  refine y_callV (as := [.inl ((xs (((4 * j : Nat) : Int) + 1).toNat).toInt)]) (rest := [.int (Int32.ofInt v)]) (h := h1) (h1 := h2) hC hR1 hq1 hls dl_257 lc_Re_join lm_La_42 li_Re_join ⟨nl rfl, nl rfl⟩ rfl c1 rfl (nl rfl) x2 ⟨by omega, by omega⟩ (fun H2 locs2 hR2 hq2 => ?_)
  refine W.cs (cells' := h2.1.length) (slots' := h2.2) (by omega) (by omega) ?_
  exact lv_icmp_eq hx hbt dl_260 (tgt := 531) rfl (fun _ => kk h2 M' q' H2 locs2 hv' hR2 hq2 (by omega) (by omega)) (fun q => absurd rfl q)
set_option maxHeartbeats 4000000 in
theorem yc_7 {ls : Array Slot} {h : xH} {M : mS} {q : rS} {H : Heap} {locs : List Loc} {j : Nat} (hC : yC p s m #[Value.ref b] c d) (hX : va_X b L xs s s.heap) (hb : b < s.heap.size) (hL : L ≤ 2048) (hj : 4 * j + 4 ≤ L) (hv : inv h M q) (hR : x_R d h H) (hq : ∀ q ∈ locs, d.1 ≤ q.base) (hls : lv_has ls 4 [(3, .int (Int32.ofInt ((4 * j : Nat) : Int))), (2, .ref (d.1 + 16)), (1, .ref (d.1 + 0)), (0, .ref b)]) (hc1 : h.1.length ≤ 23 + 250 * j) (hc2 : h.2 ≤ 11000 + 1500 * j) (kk : yK p l e s m b below meth c d ls j) : yG p l e s m b below meth c H locs h (F0 m 265 ls []) := by
  have rc := y_rc
  have rs := y_rs
  have hx := hC.1
  have hbt := hC.2.1
  have hd1 := hC.2.2.2.2.2.2
  have hq' : ∀ q ∈ locs, s.heap.size ≤ q.base := by rw [← hd1]; exact hq
  obtain ⟨v, h1, h2, M', q', ⟨x1, x2, ⟨f0, c0⟩, ⟨f1, c1⟩, b1, b2, b3, b4, b5, b6⟩, hv'⟩ := kom_absThm h M q hv
  refine lv_aload_n hx hbt dl_265 rfl (lv_at hls 2 rfl) ?_
  refine y_callV (as := []) (rest := []) (h := h) (h1 := h1) hC hR hq hls dl_266 lc_Ma_absThm lm_La_43 li_Ma_absThm ⟨nl rfl, nl rfl⟩ rfl c0 rfl (nl rfl) x1 ⟨by omega, by omega⟩ (fun H1 locs1 hR1 hq1 => ?_)
  have hq1' : ∀ q ∈ locs1, s.heap.size ≤ q.base := by rw [← hd1]; exact hq1
  refine W.cs (cells' := h1.1.length) (slots' := h1.2) (by omega) (by omega) ?_
  refine lv_aload_n hx hbt dl_269 rfl (lv_at hls 1 rfl) ?_
  refine y_callV (as := []) (rest := [.int (Int32.ofInt v)]) (h := h1) (h1 := h2) hC hR1 hq1 hls dl_270 lc_Re_absThm lm_La_46 li_Re_absThm ⟨nl rfl, nl rfl⟩ rfl c1 rfl (nl rfl) x2 ⟨by omega, by omega⟩ (fun H2 locs2 hR2 hq2 => ?_)
  refine W.cs (cells' := h2.1.length) (slots' := h2.2) (by omega) (by omega) ?_
  exact lv_icmp_eq hx hbt dl_273 (tgt := 531) rfl (fun _ => kk h2 M' q' H2 locs2 hv' hR2 hq2 (by omega) (by omega)) (fun q => absurd rfl q)
set_option maxHeartbeats 4000000 in
theorem yc_8 {ls : Array Slot} {h : xH} {M : mS} {q : rS} {H : Heap} {locs : List Loc} {j : Nat} (hC : yC p s m #[Value.ref b] c d) (hX : va_X b L xs s s.heap) (hb : b < s.heap.size) (hL : L ≤ 2048) (hj : 4 * j + 4 ≤ L) (hv : inv h M q) (hR : x_R d h H) (hq : ∀ q ∈ locs, d.1 ≤ q.base) (hls : lv_has ls 4 [(3, .int (Int32.ofInt ((4 * j : Nat) : Int))), (2, .ref (d.1 + 16)), (1, .ref (d.1 + 0)), (0, .ref b)]) (hc1 : h.1.length ≤ 23 + 250 * j) (hc2 : h.2 ≤ 11000 + 1500 * j) (kk : yK p l e s m b below meth c d ls j) : yG p l e s m b below meth c H locs h (F0 m 278 ls []) := by
  have rc := y_rc
  have rs := y_rs
  have hx := hC.1
  have hbt := hC.2.1
  have hd1 := hC.2.2.2.2.2.2
  have hq' : ∀ q ∈ locs, s.heap.size ≤ q.base := by rw [← hd1]; exact hq
  obtain ⟨v, h1, h2, M', q', ⟨x1, x2, ⟨f0, c0⟩, ⟨f1, c1⟩, b1, b2, b3, b4, b5, b6⟩, hv'⟩ := kom_inst h M q hv
  refine lv_aload_n hx hbt dl_278 rfl (lv_at hls 2 rfl) ?_
  refine y_callV (as := []) (rest := []) (h := h) (h1 := h1) hC hR hq hls dl_279 lc_Ma_inst lm_La_47 li_Ma_inst ⟨nl rfl, nl rfl⟩ rfl c0 rfl (nl rfl) x1 ⟨by omega, by omega⟩ (fun H1 locs1 hR1 hq1 => ?_)
  have hq1' : ∀ q ∈ locs1, s.heap.size ≤ q.base := by rw [← hd1]; exact hq1
  refine W.cs (cells' := h1.1.length) (slots' := h1.2) (by omega) (by omega) ?_
  refine lv_aload_n hx hbt dl_282 rfl (lv_at hls 1 rfl) ?_
  refine y_callV (as := []) (rest := [.int (Int32.ofInt v)]) (h := h1) (h1 := h2) hC hR1 hq1 hls dl_283 lc_Re_inst lm_La_50 li_Re_inst ⟨nl rfl, nl rfl⟩ rfl c1 rfl (nl rfl) x2 ⟨by omega, by omega⟩ (fun H2 locs2 hR2 hq2 => ?_)
  refine W.cs (cells' := h2.1.length) (slots' := h2.2) (by omega) (by omega) ?_
  exact lv_icmp_eq hx hbt dl_286 (tgt := 531) rfl (fun _ => kk h2 M' q' H2 locs2 hv' hR2 hq2 (by omega) (by omega)) (fun q => absurd rfl q)
set_option maxHeartbeats 4000000 in
theorem yc_9 {ls : Array Slot} {h : xH} {M : mS} {q : rS} {H : Heap} {locs : List Loc} {j : Nat} (hC : yC p s m #[Value.ref b] c d) (hX : va_X b L xs s s.heap) (hb : b < s.heap.size) (hL : L ≤ 2048) (hj : 4 * j + 4 ≤ L) (hv : inv h M q) (hR : x_R d h H) (hq : ∀ q ∈ locs, d.1 ≤ q.base) (hls : lv_has ls 4 [(3, .int (Int32.ofInt ((4 * j : Nat) : Int))), (2, .ref (d.1 + 16)), (1, .ref (d.1 + 0)), (0, .ref b)]) (hc1 : h.1.length ≤ 23 + 250 * j) (hc2 : h.2 ≤ 11000 + 1500 * j) (kk : yK p l e s m b below meth c d ls j) : yG p l e s m b below meth c H locs h (F0 m 291 ls []) := by
  have rc := y_rc
  have rs := y_rs
  have hx := hC.1
  have hbt := hC.2.1
  have hd1 := hC.2.2.2.2.2.2
  have hq' : ∀ q ∈ locs, s.heap.size ≤ q.base := by rw [← hd1]; exact hq
  obtain ⟨v, h1, h2, M', q', ⟨x1, x2, ⟨f0, c0⟩, ⟨f1, c1⟩, b1, b2, b3, b4, b5, b6⟩, hv'⟩ := kom_instType (k := (xs (((4 * j : Nat) : Int) + 1).toNat).toInt) (y_ir _) h M q hv
  refine lv_aload_n hx hbt dl_291 rfl (lv_at hls 2 rfl) ?_
  refine y_arg (k := 1) (lv := []) hx hbt hX hb hq' (lv_at hls 3 rfl) (lv_at hls 0 rfl) (by omega) (by omega) hL dl_292 dl_293 dl_294 dl_295 dl_296 ?_
  refine y_callV (as := [.inl ((xs (((4 * j : Nat) : Int) + 1).toNat).toInt)]) (rest := []) (h := h) (h1 := h1) hC hR hq hls dl_297 lc_Ma_instType lm_La_51 li_Ma_instType ⟨nl rfl, nl rfl⟩ rfl c0 rfl (nl rfl) x1 ⟨by omega, by omega⟩ (fun H1 locs1 hR1 hq1 => ?_)
  have hq1' : ∀ q ∈ locs1, s.heap.size ≤ q.base := by rw [← hd1]; exact hq1
  refine W.cs (cells' := h1.1.length) (slots' := h1.2) (by omega) (by omega) ?_
  refine lv_aload_n hx hbt dl_300 rfl (lv_at hls 1 rfl) ?_
  refine y_arg (k := 1) (lv := []) hx hbt hX hb hq1' (lv_at hls 3 rfl) (lv_at hls 0 rfl) (by omega) (by omega) hL dl_301 dl_302 dl_303 dl_304 dl_305 ?_
  refine y_callV (as := [.inl ((xs (((4 * j : Nat) : Int) + 1).toNat).toInt)]) (rest := [.int (Int32.ofInt v)]) (h := h1) (h1 := h2) hC hR1 hq1 hls dl_306 lc_Re_instType lm_La_54 li_Re_instType ⟨nl rfl, nl rfl⟩ rfl c1 rfl (nl rfl) x2 ⟨by omega, by omega⟩ (fun H2 locs2 hR2 hq2 => ?_)
  refine W.cs (cells' := h2.1.length) (slots' := h2.2) (by omega) (by omega) ?_
  exact lv_icmp_eq hx hbt dl_309 (tgt := 531) rfl (fun _ => kk h2 M' q' H2 locs2 hv' hR2 hq2 (by omega) (by omega)) (fun q => absurd rfl q)
set_option maxHeartbeats 4000000 in
theorem yc_10 {ls : Array Slot} {h : xH} {M : mS} {q : rS} {H : Heap} {locs : List Loc} {j : Nat} (hC : yC p s m #[Value.ref b] c d) (hX : va_X b L xs s s.heap) (hb : b < s.heap.size) (hL : L ≤ 2048) (hj : 4 * j + 4 ≤ L) (hv : inv h M q) (hR : x_R d h H) (hq : ∀ q ∈ locs, d.1 ≤ q.base) (hls : lv_has ls 4 [(3, .int (Int32.ofInt ((4 * j : Nat) : Int))), (2, .ref (d.1 + 16)), (1, .ref (d.1 + 0)), (0, .ref b)]) (hc1 : h.1.length ≤ 23 + 250 * j) (hc2 : h.2 ≤ 11000 + 1500 * j) (kk : yK p l e s m b below meth c d ls j) : yG p l e s m b below meth c H locs h (F0 m 314 ls []) := by
  have rc := y_rc
  have rs := y_rs
  have hx := hC.1
  have hbt := hC.2.1
  have hd1 := hC.2.2.2.2.2.2
  have hq' : ∀ q ∈ locs, s.heap.size ≤ q.base := by rw [← hd1]; exact hq
  obtain ⟨v, h1, h2, M', q', ⟨x1, x2, ⟨f0, c0⟩, ⟨f1, c1⟩, b1, b2, b3, b4, b5, b6⟩, hv'⟩ := kom_keep (k := (xs (((4 * j : Nat) : Int) + 1).toNat).toInt) (y_ir _) h M q hv
  refine lv_aload_n hx hbt dl_314 rfl (lv_at hls 2 rfl) ?_
  refine y_arg (k := 1) (lv := []) hx hbt hX hb hq' (lv_at hls 3 rfl) (lv_at hls 0 rfl) (by omega) (by omega) hL dl_315 dl_316 dl_317 dl_318 dl_319 ?_
  refine y_callV (as := [.inl ((xs (((4 * j : Nat) : Int) + 1).toNat).toInt)]) (rest := []) (h := h) (h1 := h1) hC hR hq hls dl_320 lc_Ma_keep lm_La_55 li_Ma_keep ⟨nl rfl, nl rfl⟩ rfl c0 rfl (nl rfl) x1 ⟨by omega, by omega⟩ (fun H1 locs1 hR1 hq1 => ?_)
  have hq1' : ∀ q ∈ locs1, s.heap.size ≤ q.base := by rw [← hd1]; exact hq1
  refine W.cs (cells' := h1.1.length) (slots' := h1.2) (by omega) (by omega) ?_
  refine lv_aload_n hx hbt dl_323 rfl (lv_at hls 1 rfl) ?_
  refine y_arg (k := 1) (lv := []) hx hbt hX hb hq1' (lv_at hls 3 rfl) (lv_at hls 0 rfl) (by omega) (by omega) hL dl_324 dl_325 dl_326 dl_327 dl_328 ?_
  refine y_callV (as := [.inl ((xs (((4 * j : Nat) : Int) + 1).toNat).toInt)]) (rest := [.int (Int32.ofInt v)]) (h := h1) (h1 := h2) hC hR1 hq1 hls dl_329 lc_Re_keep lm_La_58 li_Re_keep ⟨nl rfl, nl rfl⟩ rfl c1 rfl (nl rfl) x2 ⟨by omega, by omega⟩ (fun H2 locs2 hR2 hq2 => ?_)
  refine W.cs (cells' := h2.1.length) (slots' := h2.2) (by omega) (by omega) ?_
  exact lv_icmp_eq hx hbt dl_332 (tgt := 531) rfl (fun _ => kk h2 M' q' H2 locs2 hv' hR2 hq2 (by omega) (by omega)) (fun q => absurd rfl q)
set_option maxHeartbeats 4000000 in
theorem yc_11 {ls : Array Slot} {h : xH} {M : mS} {q : rS} {H : Heap} {locs : List Loc} {j : Nat} (hC : yC p s m #[Value.ref b] c d) (hX : va_X b L xs s s.heap) (hb : b < s.heap.size) (hL : L ≤ 2048) (hj : 4 * j + 4 ≤ L) (hv : inv h M q) (hR : x_R d h H) (hq : ∀ q ∈ locs, d.1 ≤ q.base) (hls : lv_has ls 4 [(3, .int (Int32.ofInt ((4 * j : Nat) : Int))), (2, .ref (d.1 + 16)), (1, .ref (d.1 + 0)), (0, .ref b)]) (hc1 : h.1.length ≤ 23 + 250 * j) (hc2 : h.2 ≤ 11000 + 1500 * j) (kk : yK p l e s m b below meth c d ls j) : yG p l e s m b below meth c H locs h (F0 m 337 ls []) := by
  have rc := y_rc
  have rs := y_rs
  have hx := hC.1
  have hbt := hC.2.1
  have hd1 := hC.2.2.2.2.2.2
  have hq' : ∀ q ∈ locs, s.heap.size ≤ q.base := by rw [← hd1]; exact hq
  obtain ⟨v, h1, h2, M', q', ⟨x1, x2, ⟨f0, c0⟩, ⟨f1, c1⟩, b1, b2, b3, b4, b5, b6⟩, hv'⟩ := kom_fetch (k := (xs (((4 * j : Nat) : Int) + 1).toNat).toInt) (y_ir _) h M q hv
  refine lv_aload_n hx hbt dl_337 rfl (lv_at hls 2 rfl) ?_
  refine y_arg (k := 1) (lv := []) hx hbt hX hb hq' (lv_at hls 3 rfl) (lv_at hls 0 rfl) (by omega) (by omega) hL dl_338 dl_339 dl_340 dl_341 dl_342 ?_
  refine y_callV (as := [.inl ((xs (((4 * j : Nat) : Int) + 1).toNat).toInt)]) (rest := []) (h := h) (h1 := h1) hC hR hq hls dl_343 lc_Ma_fetch lm_La_59 li_Ma_fetch ⟨nl rfl, nl rfl⟩ rfl c0 rfl (nl rfl) x1 ⟨by omega, by omega⟩ (fun H1 locs1 hR1 hq1 => ?_)
  have hq1' : ∀ q ∈ locs1, s.heap.size ≤ q.base := by rw [← hd1]; exact hq1
  refine W.cs (cells' := h1.1.length) (slots' := h1.2) (by omega) (by omega) ?_
  refine lv_aload_n hx hbt dl_346 rfl (lv_at hls 1 rfl) ?_
  refine y_arg (k := 1) (lv := []) hx hbt hX hb hq1' (lv_at hls 3 rfl) (lv_at hls 0 rfl) (by omega) (by omega) hL dl_347 dl_348 dl_349 dl_350 dl_351 ?_
  refine y_callV (as := [.inl ((xs (((4 * j : Nat) : Int) + 1).toNat).toInt)]) (rest := [.int (Int32.ofInt v)]) (h := h1) (h1 := h2) hC hR1 hq1 hls dl_352 lc_Re_fetch lm_La_62 li_Re_fetch ⟨nl rfl, nl rfl⟩ rfl c1 rfl (nl rfl) x2 ⟨by omega, by omega⟩ (fun H2 locs2 hR2 hq2 => ?_)
  refine W.cs (cells' := h2.1.length) (slots' := h2.2) (by omega) (by omega) ?_
  exact lv_icmp_eq hx hbt dl_355 (tgt := 531) rfl (fun _ => kk h2 M' q' H2 locs2 hv' hR2 hq2 (by omega) (by omega)) (fun q => absurd rfl q)
set_option maxHeartbeats 4000000 in
theorem yc_12 {ls : Array Slot} {h : xH} {M : mS} {q : rS} {H : Heap} {locs : List Loc} {j : Nat} (hC : yC p s m #[Value.ref b] c d) (hX : va_X b L xs s s.heap) (hb : b < s.heap.size) (hL : L ≤ 2048) (hj : 4 * j + 4 ≤ L) (hv : inv h M q) (hR : x_R d h H) (hq : ∀ q ∈ locs, d.1 ≤ q.base) (hls : lv_has ls 4 [(3, .int (Int32.ofInt ((4 * j : Nat) : Int))), (2, .ref (d.1 + 16)), (1, .ref (d.1 + 0)), (0, .ref b)]) (hc1 : h.1.length ≤ 23 + 250 * j) (hc2 : h.2 ≤ 11000 + 1500 * j) (kk : yK p l e s m b below meth c d ls j) : yG p l e s m b below meth c H locs h (F0 m 360 ls []) := by
  have rc := y_rc
  have rs := y_rs
  have hx := hC.1
  have hbt := hC.2.1
  have hd1 := hC.2.2.2.2.2.2
  have hq' : ∀ q ∈ locs, s.heap.size ≤ q.base := by rw [← hd1]; exact hq
  obtain ⟨v, h1, h2, M', q', ⟨x1, x2, ⟨f0, c0⟩, ⟨f1, c1⟩, b1, b2, b3, b4, b5, b6⟩, hv'⟩ := kom_pop h M q hv
  refine lv_aload_n hx hbt dl_360 rfl (lv_at hls 2 rfl) ?_
  refine y_callV (as := []) (rest := []) (h := h) (h1 := h1) hC hR hq hls dl_361 lc_Ma_pop lm_La_63 li_Ma_pop ⟨nl rfl, nl rfl⟩ rfl c0 rfl (nl rfl) x1 ⟨by omega, by omega⟩ (fun H1 locs1 hR1 hq1 => ?_)
  have hq1' : ∀ q ∈ locs1, s.heap.size ≤ q.base := by rw [← hd1]; exact hq1
  refine W.cs (cells' := h1.1.length) (slots' := h1.2) (by omega) (by omega) ?_
  refine lv_aload_n hx hbt dl_364 rfl (lv_at hls 1 rfl) ?_
  refine y_callV (as := []) (rest := [.int (Int32.ofInt v)]) (h := h1) (h1 := h2) hC hR1 hq1 hls dl_365 lc_Re_pop lm_La_66 li_Re_pop ⟨nl rfl, nl rfl⟩ rfl c1 rfl (nl rfl) x2 ⟨by omega, by omega⟩ (fun H2 locs2 hR2 hq2 => ?_)
  refine W.cs (cells' := h2.1.length) (slots' := h2.2) (by omega) (by omega) ?_
  exact lv_icmp_eq hx hbt dl_368 (tgt := 531) rfl (fun _ => kk h2 M' q' H2 locs2 hv' hR2 hq2 (by omega) (by omega)) (fun q => absurd rfl q)
set_option maxHeartbeats 4000000 in
theorem yc_13 {ls : Array Slot} {h : xH} {M : mS} {q : rS} {H : Heap} {locs : List Loc} {j : Nat} (hC : yC p s m #[Value.ref b] c d) (hX : va_X b L xs s s.heap) (hb : b < s.heap.size) (hL : L ≤ 2048) (hj : 4 * j + 4 ≤ L) (hv : inv h M q) (hR : x_R d h H) (hq : ∀ q ∈ locs, d.1 ≤ q.base) (hls : lv_has ls 4 [(3, .int (Int32.ofInt ((4 * j : Nat) : Int))), (2, .ref (d.1 + 16)), (1, .ref (d.1 + 0)), (0, .ref b)]) (hc1 : h.1.length ≤ 23 + 250 * j) (hc2 : h.2 ≤ 11000 + 1500 * j) (kk : yK p l e s m b below meth c d ls j) : yG p l e s m b below meth c H locs h (F0 m 373 ls []) := by
  have rc := y_rc
  have rs := y_rs
  have hx := hC.1
  have hbt := hC.2.1
  have hd1 := hC.2.2.2.2.2.2
  have hq' : ∀ q ∈ locs, s.heap.size ≤ q.base := by rw [← hd1]; exact hq
  obtain ⟨v, h1, h2, M', q', ⟨x1, x2, ⟨f0, c0⟩, ⟨f1, c1⟩, b1, b2, b3, b4, b5, b6⟩, hv'⟩ := kom_export h M q hv
  refine lv_aload_n hx hbt dl_373 rfl (lv_at hls 2 rfl) ?_
  refine y_callV (as := []) (rest := []) (h := h) (h1 := h1) hC hR hq hls dl_374 lc_Ma_export lm_La_67 li_Ma_export ⟨nl rfl, nl rfl⟩ rfl c0 rfl (nl rfl) x1 ⟨by omega, by omega⟩ (fun H1 locs1 hR1 hq1 => ?_)
  have hq1' : ∀ q ∈ locs1, s.heap.size ≤ q.base := by rw [← hd1]; exact hq1
  refine W.cs (cells' := h1.1.length) (slots' := h1.2) (by omega) (by omega) ?_
  refine lv_aload_n hx hbt dl_377 rfl (lv_at hls 1 rfl) ?_
  refine y_callV (as := []) (rest := [.int (Int32.ofInt v)]) (h := h1) (h1 := h2) hC hR1 hq1 hls dl_378 lc_Re_export lm_La_70 li_Re_export ⟨nl rfl, nl rfl⟩ rfl c1 rfl (nl rfl) x2 ⟨by omega, by omega⟩ (fun H2 locs2 hR2 hq2 => ?_)
  refine W.cs (cells' := h2.1.length) (slots' := h2.2) (by omega) (by omega) ?_
  exact lv_icmp_eq hx hbt dl_381 (tgt := 531) rfl (fun _ => kk h2 M' q' H2 locs2 hv' hR2 hq2 (by omega) (by omega)) (fun q => absurd rfl q)
set_option maxHeartbeats 4000000 in
theorem yc_14 {ls : Array Slot} {h : xH} {M : mS} {q : rS} {H : Heap} {locs : List Loc} {j : Nat} (hC : yC p s m #[Value.ref b] c d) (hX : va_X b L xs s s.heap) (hb : b < s.heap.size) (hL : L ≤ 2048) (hj : 4 * j + 4 ≤ L) (hv : inv h M q) (hR : x_R d h H) (hq : ∀ q ∈ locs, d.1 ≤ q.base) (hls : lv_has ls 4 [(3, .int (Int32.ofInt ((4 * j : Nat) : Int))), (2, .ref (d.1 + 16)), (1, .ref (d.1 + 0)), (0, .ref b)]) (hc1 : h.1.length ≤ 23 + 250 * j) (hc2 : h.2 ≤ 11000 + 1500 * j) (kk : yK p l e s m b below meth c d ls j) : yG p l e s m b below meth c H locs h (F0 m 386 ls []) := by
  have rc := y_rc
  have rs := y_rs
  have hx := hC.1
  have hbt := hC.2.1
  have hd1 := hC.2.2.2.2.2.2
  have hq' : ∀ q ∈ locs, s.heap.size ≤ q.base := by rw [← hd1]; exact hq
  obtain ⟨v, h1, h2, M', q', ⟨x1, x2, ⟨f0, c0⟩, ⟨f1, c1⟩, b1, b2, b3, b4, b5, b6⟩, hv'⟩ := kom_count (k := (xs (((4 * j : Nat) : Int) + 1).toNat).toInt) (y_ir _) h M q hv
  refine lv_aload_n hx hbt dl_386 rfl (lv_at hls 2 rfl) ?_
  refine y_arg (k := 1) (lv := []) hx hbt hX hb hq' (lv_at hls 3 rfl) (lv_at hls 0 rfl) (by omega) (by omega) hL dl_387 dl_388 dl_389 dl_390 dl_391 ?_
  refine y_callV (as := [.inl ((xs (((4 * j : Nat) : Int) + 1).toNat).toInt)]) (rest := []) (h := h) (h1 := h1) hC hR hq hls dl_392 lc_Ma_count lm_La_71 li_Ma_count ⟨nl rfl, nl rfl⟩ rfl c0 rfl (nl rfl) x1 ⟨by omega, by omega⟩ (fun H1 locs1 hR1 hq1 => ?_)
  have hq1' : ∀ q ∈ locs1, s.heap.size ≤ q.base := by rw [← hd1]; exact hq1
  refine W.cs (cells' := h1.1.length) (slots' := h1.2) (by omega) (by omega) ?_
  refine lv_aload_n hx hbt dl_395 rfl (lv_at hls 1 rfl) ?_
  refine y_arg (k := 1) (lv := []) hx hbt hX hb hq1' (lv_at hls 3 rfl) (lv_at hls 0 rfl) (by omega) (by omega) hL dl_396 dl_397 dl_398 dl_399 dl_400 ?_
  refine y_callV (as := [.inl ((xs (((4 * j : Nat) : Int) + 1).toNat).toInt)]) (rest := [.int (Int32.ofInt v)]) (h := h1) (h1 := h2) hC hR1 hq1 hls dl_401 lc_Re_count lm_La_74 li_Re_count ⟨nl rfl, nl rfl⟩ rfl c1 rfl (nl rfl) x2 ⟨by omega, by omega⟩ (fun H2 locs2 hR2 hq2 => ?_)
  refine W.cs (cells' := h2.1.length) (slots' := h2.2) (by omega) (by omega) ?_
  exact lv_icmp_eq hx hbt dl_404 (tgt := 531) rfl (fun _ => kk h2 M' q' H2 locs2 hv' hR2 hq2 (by omega) (by omega)) (fun q => absurd rfl q)
set_option maxHeartbeats 4000000 in
theorem yc_15 {ls : Array Slot} {h : xH} {M : mS} {q : rS} {H : Heap} {locs : List Loc} {j : Nat} (hC : yC p s m #[Value.ref b] c d) (hX : va_X b L xs s s.heap) (hb : b < s.heap.size) (hL : L ≤ 2048) (hj : 4 * j + 4 ≤ L) (hv : inv h M q) (hR : x_R d h H) (hq : ∀ q ∈ locs, d.1 ≤ q.base) (hls : lv_has ls 4 [(3, .int (Int32.ofInt ((4 * j : Nat) : Int))), (2, .ref (d.1 + 16)), (1, .ref (d.1 + 0)), (0, .ref b)]) (hc1 : h.1.length ≤ 23 + 250 * j) (hc2 : h.2 ≤ 11000 + 1500 * j) (kk : yK p l e s m b below meth c d ls j) : yG p l e s m b below meth c H locs h (F0 m 409 ls []) := by
  have rc := y_rc
  have rs := y_rs
  have hx := hC.1
  have hbt := hC.2.1
  have hd1 := hC.2.2.2.2.2.2
  have hq' : ∀ q ∈ locs, s.heap.size ≤ q.base := by rw [← hd1]; exact hq
  obtain ⟨v, h1, h2, M', q', ⟨x1, x2, ⟨f0, c0⟩, ⟨f1, c1⟩, b1, b2, b3, b4, b5, b6⟩, hv'⟩ := kom_kind (k := (xs (((4 * j : Nat) : Int) + 1).toNat).toInt) (y_ir _) h M q hv
  refine lv_aload_n hx hbt dl_409 rfl (lv_at hls 2 rfl) ?_
  refine y_arg (k := 1) (lv := []) hx hbt hX hb hq' (lv_at hls 3 rfl) (lv_at hls 0 rfl) (by omega) (by omega) hL dl_410 dl_411 dl_412 dl_413 dl_414 ?_
  refine y_callV (as := [.inl ((xs (((4 * j : Nat) : Int) + 1).toNat).toInt)]) (rest := []) (h := h) (h1 := h1) hC hR hq hls dl_415 lc_Ma_kind lm_La_75 li_Ma_kind ⟨nl rfl, nl rfl⟩ rfl c0 rfl (nl rfl) x1 ⟨by omega, by omega⟩ (fun H1 locs1 hR1 hq1 => ?_)
  have hq1' : ∀ q ∈ locs1, s.heap.size ≤ q.base := by rw [← hd1]; exact hq1
  refine W.cs (cells' := h1.1.length) (slots' := h1.2) (by omega) (by omega) ?_
  refine lv_aload_n hx hbt dl_418 rfl (lv_at hls 1 rfl) ?_
  refine y_arg (k := 1) (lv := []) hx hbt hX hb hq1' (lv_at hls 3 rfl) (lv_at hls 0 rfl) (by omega) (by omega) hL dl_419 dl_420 dl_421 dl_422 dl_423 ?_
  refine y_callV (as := [.inl ((xs (((4 * j : Nat) : Int) + 1).toNat).toInt)]) (rest := [.int (Int32.ofInt v)]) (h := h1) (h1 := h2) hC hR1 hq1 hls dl_424 lc_Re_kind lm_La_78 li_Re_kind ⟨nl rfl, nl rfl⟩ rfl c1 rfl (nl rfl) x2 ⟨by omega, by omega⟩ (fun H2 locs2 hR2 hq2 => ?_)
  refine W.cs (cells' := h2.1.length) (slots' := h2.2) (by omega) (by omega) ?_
  exact lv_icmp_eq hx hbt dl_427 (tgt := 531) rfl (fun _ => kk h2 M' q' H2 locs2 hv' hR2 hq2 (by omega) (by omega)) (fun q => absurd rfl q)
set_option maxHeartbeats 4000000 in
theorem yc_16 {ls : Array Slot} {h : xH} {M : mS} {q : rS} {H : Heap} {locs : List Loc} {j : Nat} (hC : yC p s m #[Value.ref b] c d) (hX : va_X b L xs s s.heap) (hb : b < s.heap.size) (hL : L ≤ 2048) (hj : 4 * j + 4 ≤ L) (hv : inv h M q) (hR : x_R d h H) (hq : ∀ q ∈ locs, d.1 ≤ q.base) (hls : lv_has ls 4 [(3, .int (Int32.ofInt ((4 * j : Nat) : Int))), (2, .ref (d.1 + 16)), (1, .ref (d.1 + 0)), (0, .ref b)]) (hc1 : h.1.length ≤ 23 + 250 * j) (hc2 : h.2 ≤ 11000 + 1500 * j) (kk : yK p l e s m b below meth c d ls j) : yG p l e s m b below meth c H locs h (F0 m 432 ls []) := by
  have rc := y_rc
  have rs := y_rs
  have hx := hC.1
  have hbt := hC.2.1
  have hd1 := hC.2.2.2.2.2.2
  have hq' : ∀ q ∈ locs, s.heap.size ≤ q.base := by rw [← hd1]; exact hq
  obtain ⟨v, h1, h2, M', q', ⟨x1, x2, ⟨f0, c0⟩, ⟨f1, c1⟩, b1, b2, b3, b4, b5, b6⟩, hv'⟩ := kom_hypotheses (k := (xs (((4 * j : Nat) : Int) + 1).toNat).toInt) (y_ir _) h M q hv
  refine lv_aload_n hx hbt dl_432 rfl (lv_at hls 2 rfl) ?_
  refine y_arg (k := 1) (lv := []) hx hbt hX hb hq' (lv_at hls 3 rfl) (lv_at hls 0 rfl) (by omega) (by omega) hL dl_433 dl_434 dl_435 dl_436 dl_437 ?_
  refine y_callV (as := [.inl ((xs (((4 * j : Nat) : Int) + 1).toNat).toInt)]) (rest := []) (h := h) (h1 := h1) hC hR hq hls dl_438 lc_Ma_hypotheses lm_La_79 li_Ma_hypotheses ⟨nl rfl, nl rfl⟩ rfl c0 rfl (nl rfl) x1 ⟨by omega, by omega⟩ (fun H1 locs1 hR1 hq1 => ?_)
  have hq1' : ∀ q ∈ locs1, s.heap.size ≤ q.base := by rw [← hd1]; exact hq1
  refine W.cs (cells' := h1.1.length) (slots' := h1.2) (by omega) (by omega) ?_
  refine lv_aload_n hx hbt dl_441 rfl (lv_at hls 1 rfl) ?_
  refine y_arg (k := 1) (lv := []) hx hbt hX hb hq1' (lv_at hls 3 rfl) (lv_at hls 0 rfl) (by omega) (by omega) hL dl_442 dl_443 dl_444 dl_445 dl_446 ?_
  refine y_callV (as := [.inl ((xs (((4 * j : Nat) : Int) + 1).toNat).toInt)]) (rest := [.int (Int32.ofInt v)]) (h := h1) (h1 := h2) hC hR1 hq1 hls dl_447 lc_Re_hypotheses lm_La_82 li_Re_hypotheses ⟨nl rfl, nl rfl⟩ rfl c1 rfl (nl rfl) x2 ⟨by omega, by omega⟩ (fun H2 locs2 hR2 hq2 => ?_)
  refine W.cs (cells' := h2.1.length) (slots' := h2.2) (by omega) (by omega) ?_
  exact lv_icmp_eq hx hbt dl_450 (tgt := 531) rfl (fun _ => kk h2 M' q' H2 locs2 hv' hR2 hq2 (by omega) (by omega)) (fun q => absurd rfl q)
set_option maxHeartbeats 4000000 in
theorem yc_17 {ls : Array Slot} {h : xH} {M : mS} {q : rS} {H : Heap} {locs : List Loc} {j : Nat} (hC : yC p s m #[Value.ref b] c d) (hX : va_X b L xs s s.heap) (hb : b < s.heap.size) (hL : L ≤ 2048) (hj : 4 * j + 4 ≤ L) (hv : inv h M q) (hR : x_R d h H) (hq : ∀ q ∈ locs, d.1 ≤ q.base) (hls : lv_has ls 4 [(3, .int (Int32.ofInt ((4 * j : Nat) : Int))), (2, .ref (d.1 + 16)), (1, .ref (d.1 + 0)), (0, .ref b)]) (hc1 : h.1.length ≤ 23 + 250 * j) (hc2 : h.2 ≤ 11000 + 1500 * j) (kk : yK p l e s m b below meth c d ls j) : yG p l e s m b below meth c H locs h (F0 m 455 ls []) := by
  have rc := y_rc
  have rs := y_rs
  have hx := hC.1
  have hbt := hC.2.1
  have hd1 := hC.2.2.2.2.2.2
  have hq' : ∀ q ∈ locs, s.heap.size ≤ q.base := by rw [← hd1]; exact hq
  obtain ⟨v, h1, h2, M', q', ⟨x1, x2, ⟨f0, c0⟩, ⟨f1, c1⟩, b1, b2, b3, b4, b5, b6⟩, hv'⟩ := kom_length (k := (xs (((4 * j : Nat) : Int) + 1).toNat).toInt) (i := (xs (((4 * j : Nat) : Int) + 2).toNat).toInt) (y_ir _) (y_ir _) h M q hv
  refine lv_aload_n hx hbt dl_455 rfl (lv_at hls 2 rfl) ?_
  refine y_arg (k := 1) (lv := []) hx hbt hX hb hq' (lv_at hls 3 rfl) (lv_at hls 0 rfl) (by omega) (by omega) hL dl_456 dl_457 dl_458 dl_459 dl_460 ?_
  refine y_arg (k := 2) (lv := []) hx hbt hX hb hq' (lv_at hls 3 rfl) (lv_at hls 0 rfl) (by omega) (by omega) hL dl_461 dl_462 dl_463 dl_464 dl_465 ?_
  refine y_callV (as := [.inl ((xs (((4 * j : Nat) : Int) + 1).toNat).toInt), .inl ((xs (((4 * j : Nat) : Int) + 2).toNat).toInt)]) (rest := []) (h := h) (h1 := h1) hC hR hq hls dl_466 lc_Ma_length lm_La_83 li_Ma_length ⟨nl rfl, nl rfl⟩ rfl c0 rfl (nl rfl) x1 ⟨by omega, by omega⟩ (fun H1 locs1 hR1 hq1 => ?_)
  have hq1' : ∀ q ∈ locs1, s.heap.size ≤ q.base := by rw [← hd1]; exact hq1
  refine W.cs (cells' := h1.1.length) (slots' := h1.2) (by omega) (by omega) ?_
  refine lv_aload_n hx hbt dl_469 rfl (lv_at hls 1 rfl) ?_
  refine y_arg (k := 1) (lv := []) hx hbt hX hb hq1' (lv_at hls 3 rfl) (lv_at hls 0 rfl) (by omega) (by omega) hL dl_470 dl_471 dl_472 dl_473 dl_474 ?_
  refine y_arg (k := 2) (lv := []) hx hbt hX hb hq1' (lv_at hls 3 rfl) (lv_at hls 0 rfl) (by omega) (by omega) hL dl_475 dl_476 dl_477 dl_478 dl_479 ?_
  refine y_callV (as := [.inl ((xs (((4 * j : Nat) : Int) + 1).toNat).toInt), .inl ((xs (((4 * j : Nat) : Int) + 2).toNat).toInt)]) (rest := [.int (Int32.ofInt v)]) (h := h1) (h1 := h2) hC hR1 hq1 hls dl_480 lc_Re_length lm_La_87 li_Re_length ⟨nl rfl, nl rfl⟩ rfl c1 rfl (nl rfl) x2 ⟨by omega, by omega⟩ (fun H2 locs2 hR2 hq2 => ?_)
  refine W.cs (cells' := h2.1.length) (slots' := h2.2) (by omega) (by omega) ?_
  exact lv_icmp_eq hx hbt dl_483 (tgt := 531) rfl (fun _ => kk h2 M' q' H2 locs2 hv' hR2 hq2 (by omega) (by omega)) (fun q => absurd rfl q)
set_option maxHeartbeats 4000000 in
theorem yc_18 {ls : Array Slot} {h : xH} {M : mS} {q : rS} {H : Heap} {locs : List Loc} {j : Nat} (hC : yC p s m #[Value.ref b] c d) (hX : va_X b L xs s s.heap) (hb : b < s.heap.size) (hL : L ≤ 2048) (hj : 4 * j + 4 ≤ L) (hv : inv h M q) (hR : x_R d h H) (hq : ∀ q ∈ locs, d.1 ≤ q.base) (hls : lv_has ls 4 [(3, .int (Int32.ofInt ((4 * j : Nat) : Int))), (2, .ref (d.1 + 16)), (1, .ref (d.1 + 0)), (0, .ref b)]) (hc1 : h.1.length ≤ 23 + 250 * j) (hc2 : h.2 ≤ 11000 + 1500 * j) (kk : yK p l e s m b below meth c d ls j) : yG p l e s m b below meth c H locs h (F0 m 488 ls []) := by
  have rc := y_rc
  have rs := y_rs
  have hx := hC.1
  have hbt := hC.2.1
  have hd1 := hC.2.2.2.2.2.2
  have hq' : ∀ q ∈ locs, s.heap.size ≤ q.base := by rw [← hd1]; exact hq
  obtain ⟨v, h1, h2, M', q', ⟨x1, x2, ⟨f0, c0⟩, ⟨f1, c1⟩, b1, b2, b3, b4, b5, b6⟩, hv'⟩ := kom_symbol (k := (xs (((4 * j : Nat) : Int) + 1).toNat).toInt) (i := (xs (((4 * j : Nat) : Int) + 2).toNat).toInt) (j := (xs (((4 * j : Nat) : Int) + 3).toNat).toInt) (y_ir _) (y_ir _) (y_ir _) h M q hv
  refine lv_aload_n hx hbt dl_488 rfl (lv_at hls 2 rfl) ?_
  refine y_arg (k := 1) (lv := []) hx hbt hX hb hq' (lv_at hls 3 rfl) (lv_at hls 0 rfl) (by omega) (by omega) hL dl_489 dl_490 dl_491 dl_492 dl_493 ?_
  refine y_arg (k := 2) (lv := []) hx hbt hX hb hq' (lv_at hls 3 rfl) (lv_at hls 0 rfl) (by omega) (by omega) hL dl_494 dl_495 dl_496 dl_497 dl_498 ?_
  refine y_arg (k := 3) (lv := []) hx hbt hX hb hq' (lv_at hls 3 rfl) (lv_at hls 0 rfl) (by omega) (by omega) hL dl_499 dl_500 dl_501 dl_502 dl_503 ?_
  refine y_callV (as := [.inl ((xs (((4 * j : Nat) : Int) + 1).toNat).toInt), .inl ((xs (((4 * j : Nat) : Int) + 2).toNat).toInt), .inl ((xs (((4 * j : Nat) : Int) + 3).toNat).toInt)]) (rest := []) (h := h) (h1 := h1) hC hR hq hls dl_504 lc_Ma_symbol lm_La_88 li_Ma_symbol ⟨nl rfl, nl rfl⟩ rfl c0 rfl (nl rfl) x1 ⟨by omega, by omega⟩ (fun H1 locs1 hR1 hq1 => ?_)
  have hq1' : ∀ q ∈ locs1, s.heap.size ≤ q.base := by rw [← hd1]; exact hq1
  refine W.cs (cells' := h1.1.length) (slots' := h1.2) (by omega) (by omega) ?_
  refine lv_aload_n hx hbt dl_507 rfl (lv_at hls 1 rfl) ?_
  refine y_arg (k := 1) (lv := []) hx hbt hX hb hq1' (lv_at hls 3 rfl) (lv_at hls 0 rfl) (by omega) (by omega) hL dl_508 dl_509 dl_510 dl_511 dl_512 ?_
  refine y_arg (k := 2) (lv := []) hx hbt hX hb hq1' (lv_at hls 3 rfl) (lv_at hls 0 rfl) (by omega) (by omega) hL dl_513 dl_514 dl_515 dl_516 dl_517 ?_
  refine y_arg (k := 3) (lv := []) hx hbt hX hb hq1' (lv_at hls 3 rfl) (lv_at hls 0 rfl) (by omega) (by omega) hL dl_518 dl_519 dl_520 dl_521 dl_522 ?_
  refine y_callV (as := [.inl ((xs (((4 * j : Nat) : Int) + 1).toNat).toInt), .inl ((xs (((4 * j : Nat) : Int) + 2).toNat).toInt), .inl ((xs (((4 * j : Nat) : Int) + 3).toNat).toInt)]) (rest := [.int (Int32.ofInt v)]) (h := h1) (h1 := h2) hC hR1 hq1 hls dl_523 lc_Re_symbol lm_La_92 li_Re_symbol ⟨nl rfl, nl rfl⟩ rfl c1 rfl (nl rfl) x2 ⟨by omega, by omega⟩ (fun H2 locs2 hR2 hq2 => ?_)
  refine W.cs (cells' := h2.1.length) (slots' := h2.2) (by omega) (by omega) ?_
  exact lv_icmp_eq hx hbt dl_526 (tgt := 531) rfl (fun _ => kk h2 M' q' H2 locs2 hv' hR2 hq2 (by omega) (by omega)) (fun q => absurd rfl q)
set_option maxHeartbeats 4000000 in
theorem y_loop (hC : yC p s m #[Value.ref b] c d) (hX : va_X b L xs s s.heap) (hb : b < s.heap.size) (hL : L ≤ 2048) (hret : meth.sig.returnType = ret) (hlk : meth.locks = false) : ∀ (N j : Nat) (ls : Array Slot) (h : xH) (M : mS) (q : rS) (H : Heap) (locs : List Loc), L - 4 * j < N → 4 * j ≤ L + 3 → inv h M q → x_R d h H → (∀ q ∈ locs, d.1 ≤ q.base) → lv_has ls 4 [(3, .int (Int32.ofInt ((4 * j : Nat) : Int))), (2, .ref (d.1 + 16)), (1, .ref (d.1 + 0)), (0, .ref b)] → h.1.length ≤ 23 + 250 * j → h.2 ≤ 11000 + 1500 * j → yG p l e s m b below meth c H locs h (F0 m 18 ls []) := by
  intro N
  induction N with
  | zero => intro j ls h M q H locs hN; omega
  | succ N ih =>
    intro j ls h M q H locs hN hj4 hv hR hq hls hc1 hc2
    have rc := y_rc
    have rs := y_rs
    have hx := hC.1
    have hbt := hC.2.1
    have hd1 := hC.2.2.2.2.2.2
    have hq' : ∀ q ∈ locs, s.heap.size ≤ q.base := by rw [← hd1]; exact hq
    refine lv_iload_n hx hbt dl_18 rfl (lv_at hls 0 rfl) ?_
    refine lv_aload_n hx hbt dl_19 rfl (lv_at hls 3 rfl) ?_
    refine y_len hx hbt hX hb hq' dl_20 ?_
    refine lv_iconst hx hbt dl_21 rfl ?_
    refine lv_isub hx hbt dl_22 ?_
    rw [← Int32.ofInt_sub]
    refine lv_icmp_gt hx hbt dl_23 (tgt := 537) rfl (fun _ => ?_) (fun hc => ?_)
    · refine lv_iconst (v := 1) hx hbt dl_537 (by decide) ?_
      refine va_forget hq' ?_
      refine W.widen (k := room_1.cells) (n := room_1.slots) (by omega) (by omega) ?_
      exact lw_ret hx hbt hret hlk dl_538
    have hj : 4 * j + 4 ≤ L := by
      have this : ¬ ((L : Int) - 4 < ((4 * j : Nat) : Int)) := fun a => hc ((x_lt (a := (L : Int) - 4) (b := ((4 * j : Nat) : Int)) (by unfold ir; omega) (by unfold ir; omega)).mpr a)
      omega
    have kk : yK p l e s m b below meth c d ls j := by
      intro h2 M2 q2 H2 locs2 hv2 hR2 hq2 hd2 hd3
      refine lv_iinc hx hbt dl_531 hls (show _[0]? = some _ from rfl) (Int32.ofInt_add _ _).symm (by decide) rfl (fun ls' hl' => ?_)
      refine lv_goto hx hbt dl_534 (tgt := 18) rfl ?_
      rw [show ((4 * j : Nat) : Int) + 4 = ((4 * (j + 1) : Nat) : Int) by omega] at hl'
      exact ih (j + 1) ls' h2 M2 q2 H2 locs2 (by omega) (by omega) hv2 hR2 hq2 hl' hd2 hd3
    refine lv_aload_n hx hbt dl_26 rfl (lv_at hls 3 rfl) ?_
    refine lv_iload_n hx hbt dl_27 rfl (lv_at hls 0 rfl) ?_
    refine y_ald hx hbt hX hb hq' (by omega) (by omega) hL dl_28 ?_
    refine lv_bipush hx hbt dl_29 rfl ?_
    refine lv_iand hx hbt dl_31 ?_
    refine lv_topi (fun y _ => ?_)
    by_cases e0 : y.toInt = 0
    · exact lv_tableIn hx hbt dl_32 (off := 92) (tgt := 124) (by omega) (by omega) (by rw [e0]; rfl) rfl (yc_0 hC hX hb hL hj hv hR hq hls hc1 hc2 kk)
    by_cases e1 : y.toInt = 1
    · exact lv_tableIn hx hbt dl_32 (off := 115) (tgt := 147) (by omega) (by omega) (by rw [e1]; rfl) rfl (yc_1 hC hX hb hL hj hv hR hq hls hc1 hc2 kk)
    by_cases e2 : y.toInt = 2
    · exact lv_tableIn hx hbt dl_32 (off := 138) (tgt := 170) (by omega) (by omega) (by rw [e2]; rfl) rfl (yc_2 hC hX hb hL hj hv hR hq hls hc1 hc2 kk)
    by_cases e3 : y.toInt = 3
    · exact lv_tableIn hx hbt dl_32 (off := 161) (tgt := 193) (by omega) (by omega) (by rw [e3]; rfl) rfl (yc_3 hC hX hb hL hj hv hR hq hls hc1 hc2 kk)
    by_cases e4 : y.toInt = 4
    · exact lv_tableIn hx hbt dl_32 (off := 174) (tgt := 206) (by omega) (by omega) (by rw [e4]; rfl) rfl (yc_4 hC hX hb hL hj hv hR hq hls hc1 hc2 kk)
    by_cases e5 : y.toInt = 5
    · exact lv_tableIn hx hbt dl_32 (off := 187) (tgt := 219) (by omega) (by omega) (by rw [e5]; rfl) rfl (yc_5 hC hX hb hL hj hv hR hq hls hc1 hc2 kk)
    by_cases e6 : y.toInt = 6
    · exact lv_tableIn hx hbt dl_32 (off := 210) (tgt := 242) (by omega) (by omega) (by rw [e6]; rfl) rfl (yc_6 hC hX hb hL hj hv hR hq hls hc1 hc2 kk)
    by_cases e7 : y.toInt = 7
    · exact lv_tableIn hx hbt dl_32 (off := 233) (tgt := 265) (by omega) (by omega) (by rw [e7]; rfl) rfl (yc_7 hC hX hb hL hj hv hR hq hls hc1 hc2 kk)
    by_cases e8 : y.toInt = 8
    · exact lv_tableIn hx hbt dl_32 (off := 246) (tgt := 278) (by omega) (by omega) (by rw [e8]; rfl) rfl (yc_8 hC hX hb hL hj hv hR hq hls hc1 hc2 kk)
    by_cases e9 : y.toInt = 9
    · exact lv_tableIn hx hbt dl_32 (off := 259) (tgt := 291) (by omega) (by omega) (by rw [e9]; rfl) rfl (yc_9 hC hX hb hL hj hv hR hq hls hc1 hc2 kk)
    by_cases e10 : y.toInt = 10
    · exact lv_tableIn hx hbt dl_32 (off := 282) (tgt := 314) (by omega) (by omega) (by rw [e10]; rfl) rfl (yc_10 hC hX hb hL hj hv hR hq hls hc1 hc2 kk)
    by_cases e11 : y.toInt = 11
    · exact lv_tableIn hx hbt dl_32 (off := 305) (tgt := 337) (by omega) (by omega) (by rw [e11]; rfl) rfl (yc_11 hC hX hb hL hj hv hR hq hls hc1 hc2 kk)
    by_cases e12 : y.toInt = 12
    · exact lv_tableIn hx hbt dl_32 (off := 328) (tgt := 360) (by omega) (by omega) (by rw [e12]; rfl) rfl (yc_12 hC hX hb hL hj hv hR hq hls hc1 hc2 kk)
    by_cases e13 : y.toInt = 13
    · exact lv_tableIn hx hbt dl_32 (off := 341) (tgt := 373) (by omega) (by omega) (by rw [e13]; rfl) rfl (yc_13 hC hX hb hL hj hv hR hq hls hc1 hc2 kk)
    by_cases e14 : y.toInt = 14
    · exact lv_tableIn hx hbt dl_32 (off := 354) (tgt := 386) (by omega) (by omega) (by rw [e14]; rfl) rfl (yc_14 hC hX hb hL hj hv hR hq hls hc1 hc2 kk)
    by_cases e15 : y.toInt = 15
    · exact lv_tableIn hx hbt dl_32 (off := 377) (tgt := 409) (by omega) (by omega) (by rw [e15]; rfl) rfl (yc_15 hC hX hb hL hj hv hR hq hls hc1 hc2 kk)
    by_cases e16 : y.toInt = 16
    · exact lv_tableIn hx hbt dl_32 (off := 400) (tgt := 432) (by omega) (by omega) (by rw [e16]; rfl) rfl (yc_16 hC hX hb hL hj hv hR hq hls hc1 hc2 kk)
    by_cases e17 : y.toInt = 17
    · exact lv_tableIn hx hbt dl_32 (off := 423) (tgt := 455) (by omega) (by omega) (by rw [e17]; rfl) rfl (yc_17 hC hX hb hL hj hv hR hq hls hc1 hc2 kk)
    by_cases e18 : y.toInt = 18
    · exact lv_tableIn hx hbt dl_32 (off := 456) (tgt := 488) (by omega) (by omega) (by rw [e18]; rfl) rfl (yc_18 hC hX hb hL hj hv hR hq hls hc1 hc2 kk)
    exact lv_tableOut hx hbt dl_32 (tgt := 531) (by omega) rfl (kk h M q H locs hv hR hq (by omega) (by omega))
end YW
set_option maxHeartbeats 4000000 in
theorem whole_start {p : Program} {e : Env} {s : State} {m : MethodId} {below : List Frame} {meth : Method} {c : Code} (l : Launch) {b L : Nat} {xs : Nat → Int32} (hL : L ≤ 2048) (C0 : lw_At p s m meth c b L xs) : W p l e room_1 s m #[Value.ref b] below meth c s.heap [] 0 0 (lw_Z below #[Value.ref b] s) (entryFrame m ([Value.ref b] : List Value).toArray 4) := by
  have rc := y_rc
  have rs := y_rs
  obtain ⟨hx, hbt, hret, hml, hown, hts, hX, hb, hlk, -⟩ := C0
  obtain ⟨d, hd1, hK⟩ := y_K hts
  have hC : yC p s m #[Value.ref b] c d := ⟨hx, hbt, hml, hown, fun w hw => hts w (List.mem_filter.mp hw).1, hK, hd1⟩
  have hl0 := lv_entry [Value.ref b] (n := 4) (nl rfl)
  rw [lg_entry_eq]
  generalize (lg_sl [Value.ref b] ++ List.replicate (4 - (lg_sl [Value.ref b]).length) Slot.unset).toArray = ls at hl0 ⊢
  have hl0 : lv_has ls 4 [(0, .ref b)] := hl0
  have hR0 : x_R d ([], 0) s.heap := ⟨by rw [hd1]; rfl, by simp⟩
  refine y_new (h := ([], 0)) hC hR0 dl_0 ln_La_7 ⟨by show 0 + 1 ≤ _; omega, by show 0 + 9 ≤ _; omega⟩ (fun H1 hR1 => ?_)
  refine lv_dup hx hbt dl_3 rfl ?_
  obtain ⟨r1, h1, x1, e1, m0, len, sl⟩ := ma_init (n := 9)
  subst e1
  have le1 := x1.1
  refine y_callI (a := 0) (as := []) (rest := [.ref (d.1 + 0)]) (h1 := h1) hC hR1 (by simp) hl0 dl_4 lc_Ma_init lm_La_9 li_Ma_init ⟨nl rfl, nl rfl⟩ rfl (nl rfl) x1 ⟨by simp; omega, by simp; omega⟩ (fun H2 locs2 hR2 hq2 => ?_)
  refine W.cs (cells' := h1.1.length) (slots' := h1.2) (by have := le1.1; simp at this ⊢; omega) (by have := le1.2; simp at this ⊢; omega) ?_
  refine lv_astore_n hx hbt dl_7 rfl hl0 (by decide) rfl (fun ls1 hl1 => ?_)
  have hl1 : lv_has ls1 4 [(1, .ref (d.1 + 0)), (0, .ref b)] := hl1
  refine y_new (h := h1) hC hR2 dl_8 ln_La_10 ⟨by omega, by simp; omega⟩ (fun H3 hR3 => ?_)
  refine lv_dup hx hbt dl_11 rfl ?_
  obtain ⟨r2, h2, x2, e2, e3⟩ := re_init (P := h1.1) (n := h1.2 + 15)
  subst e2
  have le2 := x2.1
  have hv := inv_0 (n := h1.2 + 15 + 10227) m0 len
  rw [← e3] at hv
  have len2 : h2.1.length = 23 := by rw [e3]; unfold rH; simp [rC_len, len]
  have sl2 : h2.2 = h1.2 + 15 + 10227 := by rw [e3]; rfl
  refine y_callI (a := h1.1.length) (as := []) (rest := [.ref (d.1 + h1.1.length)]) (h1 := h2) hC hR3 hq2 hl1 dl_12 lc_Re_init lm_La_12 li_Re_init ⟨nl rfl, nl rfl⟩ rfl (nl rfl) x2 ⟨by simp; omega, by simp; omega⟩ (fun H4 locs4 hR4 hq4 => ?_)
  refine W.cs (cells' := h2.1.length) (slots' := h2.2) (by have := le2.1; simp at this ⊢; omega) (by have := le2.2; simp at this ⊢; omega) ?_
  rw [len]
  refine lv_astore_n hx hbt dl_15 rfl hl1 (by decide) rfl (fun ls2 hl2 => ?_)
  have hl2 : lv_has ls2 4 [(2, .ref (d.1 + 16)), (1, .ref (d.1 + 0)), (0, .ref b)] := hl2
  refine lv_iconst hx hbt dl_16 rfl ?_
  refine lv_istore_n hx hbt dl_17 rfl hl2 (by decide) rfl (fun ls3 hl3 => ?_)
  exact y_loop hC hX hb hL hret hlk _ 0 ls3 h2 mS0 q0i H4 locs4 (Nat.lt_succ_self _) (by omega) hv hR4 hq4 hl3 (by omega) (by omega)
