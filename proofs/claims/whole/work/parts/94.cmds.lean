/-! every call of the law: both answer alike and hold the same machine again -/
def cmdR (Mc Mr : xM) (as : List xV) : Prop := ∀ (h : xH) (M : mS) (q : rS), inv h M q → ∃ (v : Int) (h1 h2 : xH) (M' : mS) (q' : rS), two Mc Mr as h v h1 h2 ∧ inv h2 M' q'
theorem kom_type {k : Int} (hk : ir k) : cmdR mm_Ma_type mm_Re_type [.inl k] := fun h M q hv => by
  obtain ⟨h1, h2, q', a, b⟩ := cmd2 (o := st_type M k) hv (ma_type hv.1 hv.2.1 hk) (re_type hv.1 hv.2.2.2 hk) (gM_type hv.1)
  exact ⟨_, h1, h2, _, q', a, b⟩
theorem kom_var {k : Int} (hk : ir k) : cmdR mm_Ma_var mm_Re_var [.inl k] := fun h M q hv => by
  obtain ⟨h1, h2, q', a, b⟩ := cmd2 (o := st_var M k) hv (ma_var hv.1 hv.2.1 hk) (re_var hv.1 hv.2.2.2 hk) (gM_var hv.1)
  exact ⟨_, h1, h2, _, q', a, b⟩
theorem kom_constant {k : Int} (hk : ir k) : cmdR mm_Ma_constant mm_Re_constant [.inl k] := fun h M q hv => by
  obtain ⟨h1, h2, q', a, b⟩ := cmd2 (o := st_const M k) hv (ma_constant hv.1 hv.2.1 hk) (re_constant hv.1 hv.2.2.2 hk) (gM_const hv.1)
  exact ⟨_, h1, h2, _, q', a, b⟩
theorem kom_app   : cmdR mm_Ma_app mm_Re_app [] := fun h M q hv => by
  obtain ⟨h1, h2, q', a, b⟩ := cmd2 (o := st_app M) hv (ma_app hv.1 hv.2.1) (re_app hv.1 hv.2.2.2) (gM_app hv.1)
  exact ⟨_, h1, h2, _, q', a, b⟩
theorem kom_abs   : cmdR mm_Ma_abs mm_Re_abs [] := fun h M q hv => by
  obtain ⟨h1, h2, q', a, b⟩ := cmd2 (o := st_abs M) hv (ma_abs hv.1 hv.2.1) (re_abs hv.1 hv.2.2.2) (gM_abs hv.1)
  exact ⟨_, h1, h2, _, q', a, b⟩
theorem kom_theorem {k : Int} (hk : ir k) : cmdR mm_Ma_theorem mm_Re_theorem [.inl k] := fun h M q hv => by
  obtain ⟨h1, h2, q', a, b⟩ := cmd2 (o := st_theorem M k) hv (ma_theorem hv.1 hv.2.1 hk) (re_theorem hv.1 hv.2.2.2 hk) (gM_theorem hv.1)
  exact ⟨_, h1, h2, _, q', a, b⟩
theorem kom_join {k : Int} (hk : ir k) : cmdR mm_Ma_join mm_Re_join [.inl k] := fun h M q hv => by
  obtain ⟨h1, h2, q', a, b⟩ := cmd2 (o := st_join M k) hv (ma_join hv.1 hv.2.1 hk) (re_join hv.1 hv.2.2.2 hk) (gM_join hv.1)
  exact ⟨_, h1, h2, _, q', a, b⟩
theorem kom_absThm   : cmdR mm_Ma_absThm mm_Re_absThm [] := fun h M q hv => by
  obtain ⟨h1, h2, q', a, b⟩ := cmd2 (o := st_absT M) hv (ma_absThm hv.1 hv.2.1) (re_absThm hv.1 hv.2.2.2) (gM_absT hv.1)
  exact ⟨_, h1, h2, _, q', a, b⟩
theorem kom_inst   : cmdR mm_Ma_inst mm_Re_inst [] := fun h M q hv => by
  obtain ⟨h1, h2, q', a, b⟩ := cmd2 (o := st_inst M) hv (ma_inst hv.1 hv.2.1) (re_inst hv.1 hv.2.2.2) (gM_inst hv.1)
  exact ⟨_, h1, h2, _, q', a, b⟩
theorem kom_instType {k : Int} (hk : ir k) : cmdR mm_Ma_instType mm_Re_instType [.inl k] := fun h M q hv => by
  obtain ⟨h1, h2, q', a, b⟩ := cmd2 (o := st_instT M k) hv (ma_instType hv.1 hv.2.1 hk) (re_instType hv.1 hv.2.2.2 hk) (gM_instT hv.1)
  exact ⟨_, h1, h2, _, q', a, b⟩
theorem kom_keep {k : Int} (hk : ir k) : cmdR mm_Ma_keep mm_Re_keep [.inl k] := fun h M q hv => by
  obtain ⟨h1, h2, q', a, b⟩ := cmd2 (o := st_keep M k) hv (ma_keep hv.1 hv.2.1 hk) (re_keep hv.1 hv.2.2.2 hk) (gM_keep hv.1)
  exact ⟨_, h1, h2, _, q', a, b⟩
theorem kom_fetch {k : Int} (hk : ir k) : cmdR mm_Ma_fetch mm_Re_fetch [.inl k] := fun h M q hv => by
  obtain ⟨h1, h2, q', a, b⟩ := cmd2 (o := st_fetch M k) hv (ma_fetch hv.1 hv.2.1 hk) (re_fetch hv.1 hv.2.2.2 hk) (gM_fetch hv.1)
  exact ⟨_, h1, h2, _, q', a, b⟩
theorem kom_pop   : cmdR mm_Ma_pop mm_Re_pop [] := fun h M q hv => by
  obtain ⟨h1, h2, q', a, b⟩ := cmd2 (o := st_pop M) hv (ma_pop hv.1 hv.2.1) (re_pop hv.1 hv.2.2.2) (gM_pop hv.1)
  exact ⟨_, h1, h2, _, q', a, b⟩
theorem kom_export   : cmdR mm_Ma_export mm_Re_export [] := fun h M q hv => by
  obtain ⟨h1, h2, q', a, b⟩ := cmd2 (o := st_export M) hv (ma_export hv.1 hv.2.1) (re_export hv.1 hv.2.2.2) (gM_export hv.1)
  exact ⟨_, h1, h2, _, q', a, b⟩
theorem kom_count {k : Int} (hk : ir k) : cmdR mm_Ma_count mm_Re_count [.inl k] := fun h M q hv => by
  obtain ⟨h1, h2, q', a, b⟩ := ask2 hv (ma_count hv.1 hv.2.1 hk) (re_count hv.1 hv.2.2.2 hk)
  exact ⟨_, h1, h2, _, q', a, b⟩
theorem kom_kind {k : Int} (hk : ir k) : cmdR mm_Ma_kind mm_Re_kind [.inl k] := fun h M q hv => by
  obtain ⟨h1, h2, q', a, b⟩ := ask2 hv (ma_kind hv.1 hv.2.1 hk) (re_kind hv.1 hv.2.2.2 hk)
  exact ⟨_, h1, h2, _, q', a, b⟩
theorem kom_hypotheses {k : Int} (hk : ir k) : cmdR mm_Ma_hypotheses mm_Re_hypotheses [.inl k] := fun h M q hv => by
  obtain ⟨h1, h2, q', a, b⟩ := ask2 hv (ma_hyps hv.1 hv.2.1 hk) (re_hyps hv.1 hv.2.2.2 hk)
  exact ⟨_, h1, h2, _, q', a, b⟩
theorem kom_length {k : Int} {i : Int} (hk : ir k) (hi : ir i) : cmdR mm_Ma_length mm_Re_length [.inl k, .inl i] := fun h M q hv => by
  obtain ⟨h1, h2, q', a, b⟩ := ask2 hv (ma_length hv.1 hv.2.1 hk hi) (re_length hv.1 hv.2.2.2 hk hi)
  exact ⟨_, h1, h2, _, q', a, b⟩
theorem kom_symbol {k : Int} {i : Int} {j : Int} (hk : ir k) (hi : ir i) (hj : ir j) : cmdR mm_Ma_symbol mm_Re_symbol [.inl k, .inl i, .inl j] := fun h M q hv => by
  obtain ⟨h1, h2, q', a, b⟩ := ask2 hv (ma_symbol hv.1 hv.2.1 hk hi hj) (re_symbol hv.1 hv.2.2.2 hk hi hj)
  exact ⟨_, h1, h2, _, q', a, b⟩
