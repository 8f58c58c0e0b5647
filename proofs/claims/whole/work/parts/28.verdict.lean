/-! what a relation says, in both -/
def vd (n r : Nat) (s : Nat → Int32) : Int32 := if unk n r s 6 = 0 then (if acc n r (zs n r s) 1 3 = acc n r (zs n r s) (-1) 3 then 1 else -1) else 0
theorem vd_t {n r : Nat} {s : Nat → Int32} (c : unk n r s 6 = 0) (d : ful n r (zs n r s)) : vd n r s = 1 := by
  unfold vd
  rw [if_pos c]
  exact if_pos d
theorem vd_f {n r : Nat} {s : Nat → Int32} (c : unk n r s 6 = 0) (d : ¬ ful n r (zs n r s)) : vd n r s = -1 := by
  unfold vd
  rw [if_pos c]
  exact if_neg d
theorem vd_u {n r : Nat} {s : Nat → Int32} (c : unk n r s 6 ≠ 0) : vd n r s = 0 := if_neg c
theorem cntN_0 (p : Nat → Prop) [DecidablePred p] : ∀ n, cntN p n = 0 ↔ ∀ k, k < n → ¬ p k := by
  intro n
  induction n with
  | zero => exact ⟨fun _ k hk => absurd hk (Nat.not_lt_zero k), fun _ => rfl⟩
  | succ n ih =>
    show (if p n then cntN p n + 1 else cntN p n) = 0 ↔ _
    by_cases c : p n
    · rw [if_pos c]
      exact ⟨fun q => by omega, fun q => absurd c (q n (by omega))⟩
    · rw [if_neg c, ih]
      refine ⟨fun q k hk => ?_, fun q k hk => q k (by omega)⟩
      by_cases e : k = n
      · rw [e]; exact c
      · exact q k (by omega)
theorem cntN_1 (p : Nat → Prop) [DecidablePred p] : ∀ n, cntN p n = 1 → ∀ j k, j < n → k < n → p j → p k → j = k := by
  intro n
  induction n with
  | zero => intro h; exact absurd (show (0 : Nat) = 1 from h) (by decide)
  | succ n ih =>
    intro h j k hj hk pj pk
    have h : (if p n then cntN p n + 1 else cntN p n) = 1 := h
    by_cases c : p n
    · rw [if_pos c] at h
      have z := (cntN_0 p n).mp (by omega)
      have ej : j = n := by
        by_cases e : j = n
        · exact e
        · exact absurd pj (z j (by omega))
      have ek : k = n := by
        by_cases e : k = n
        · exact e
        · exact absurd pk (z k (by omega))
      omega
    · rw [if_neg c] at h
      have ej : j ≠ n := fun e => c (by rw [← e]; exact pj)
      have ek : k ≠ n := fun e => c (by rw [← e]; exact pk)
      exact ih h j k (by omega) (by omega) pj pk
theorem acc_cg {n r : Nat} {z z' : Nat → Int32} (x : Int32) (h : ∀ w, w < 6 → z w = z' w) : ∀ k, k ≤ 3 → acc n r z x k = acc n r z' x k := by
  intro k
  induction k with
  | zero => intro _; rfl
  | succ k ih =>
    intro hk
    rw [acc_s, acc_s, ih (by omega)]
    have : prd n r z k = prd n r z' k := by
      unfold prd
      rw [h (2 * k) (by omega), h (2 * k + 1) (by omega)]
    rw [this]
theorem ful_cg {n r : Nat} {z z' : Nat → Int32} (h : ∀ w, w < 6 → z w = z' w) : ful n r z ↔ ful n r z' := by
  unfold ful
  rw [acc_cg 1 h 3 (by omega), acc_cg (-1) h 3 (by omega)]
theorem unk_cg {n r : Nat} {s s' : Nat → Int32} (h : ∀ w, w < 6 → zs n r s w = zs n r s' w) : unk n r s 6 = unk n r s' 6 :=
  cntN_cg _ _ 6 (fun k hk => by rw [h k hk])
theorem vd_cg {n r : Nat} {s s' : Nat → Int32} (h : ∀ w, w < 6 → zs n r s w = zs n r s' w) : vd n r s = vd n r s' := by
  unfold vd
  rw [unk_cg h, acc_cg 1 h 3 (by omega), acc_cg (-1) h 3 (by omega)]
theorem cl_vdv {n : Nat} (hn : n38 n) {m : Mem} (hL : LC n m) {s : Nat → Int32} {M : Nat → Int64} (hs : RS 9 m s M) {r : Nat} (hr : r < nR n) : f_X0_verdict 1 (nI r) 10 (HH m) = some (vd n r s) := by
  obtain ⟨v, e, h0, h1⟩ := cl_vd hn hL hs hr
  rw [e]
  by_cases c : unk n r s 6 = 0
  · by_cases d : ful n r (zs n r s)
    · rw [vd_t c d, (h1 c).1 d]
    · rw [vd_f c d, (h1 c).2 d]
  · rw [vd_u c, h0 c]
/-- the signs of triples under T are signs, or NONE -/
def okS (T : Nat) (s : Nat → Int32) : Prop := ∀ t, t < T → s (3 + 4 * t) = -100 ∨ ok3 (s (3 + 4 * t))
theorem zw_0 {n r : Nat} {s : Nat → Int32} (h : unk n r s 6 = 0) (v : Int32) : ∀ w, w < 6 → zw n r s v w = zs n r s w := fun w hw => if_neg ((cntN_0 _ 6).mp h w hw)
theorem zw_ok {n : Nat} (hn : n38 n) {r : Nat} (hr : r < nR n) {s : Nat → Int32} (hs : okS (nT n) s) {v : Int32} (hv : ok3 v) : ∀ w, w < 6 → ok3 (zw n r s v w) := by
  intro w hw
  unfold zw
  by_cases c : zs n r s w = -100
  · rw [if_pos c]; exact hv
  · rw [if_neg c]; exact (hs _ (fac_lt hn hr hw)).resolve_left c
theorem m_state {n : Nat} (hn : n38 n) {m : Mem} (hL : LM n m) (hs : okS (nT n) (m.I 62)) {r : Nat} (hr : r < nR n) : ∃ m1, f_X4_state 61 (nI r) (HH m) = some (vd n r (m.I 62), HH m1) ∧ lk n r m1 6 ∧ Fr cK m m1 := by
  obtain ⟨m1, e, k, f⟩ := m_looksAt hn hL hr
  have e62 : m1.I 62 = m.I 62 := (f.1 62 (by unfold cK; omega)).1
  have hu := cntN_le (fun w => zs n r (m1.I 62) w = -100) 6
  have hu2 : unk n r (m1.I 62) 6 < 2 ^ 31 := by unfold unk; omega
  refine ⟨m1, ?_, k, f⟩
  simp (disch := omega) only [f_X4_state, o_61, Option.bind_some, e, m_unk hn hr k]
  rw [← e62]
  have hl : (nI (unk n r (m1.I 62) 6) ≤ 0) ↔ unk n r (m1.I 62) 6 = 0 := by
    rw [leO hu2]
  by_cases c : unk n r (m1.I 62) 6 = 0
  · rw [if_pos (hl.mpr c)]
    obtain ⟨x, ex, h1, h0⟩ := m_ful hn hr k 0 (zw_ok hn hr (by rw [e62]; exact hs) (Or.inr (Or.inl rfl)))
    have cg := ful_cg (n := n) (r := r) (zw_0 c 0)
    rw [ex]
    by_cases d : ful n r (zs n r (m1.I 62))
    · rw [vd_t c d, h1 (cg.mpr d)]
      rfl
    · rw [vd_f c d, h0 (fun q => d (cg.mp q))]
      rfl
  · rw [if_neg (fun q => c (hl.mp q)), vd_u c]
