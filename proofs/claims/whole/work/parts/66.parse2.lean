/-! the class parses -/
/-- where the commands begin -/
def stC (tl : Nat) (tx : Nat → Int32) : Nat → Nat
  | 0 => sp tl tx 0
  | c + 1 => sp tl tx (cmd tl tx (stC tl tx c)).2
theorem stC_s (tl : Nat) (tx : Nat → Int32) (c : Nat) : stC tl tx (c + 1) = sp tl tx (cmd tl tx (stC tl tx c)).2 := rfl
/-- the first N commands are without fault -/
def okC (tl : Nat) (tx : Nat → Int32) (N : Nat) : Prop := ∀ c, c < N → stC tl tx c < tl ∧ (cmd tl tx (stC tl tx c)).1 = 1
theorem stC_le {tl : Nat} {tx : Nat → Int32} : ∀ N, okC tl tx N → stC tl tx N ≤ tl ∧ N ≤ stC tl tx N := by
  intro N
  induction N with
  | zero => exact fun _ => ⟨(spE_b (tl := tl) (tx := tx) 121 0).2 (Nat.zero_le _), Nat.zero_le _⟩
  | succ N ih =>
    intro h
    obtain ⟨h1, h2⟩ := ih (fun c hc => h c (by omega))
    have hN := h N (by omega)
    obtain ⟨b1, b2, b3⟩ := cmd_b (tl := tl) (tx := tx) (stC tl tx N)
    have b2 := b2 h1
    have b4 : stC tl tx N < (cmd tl tx (stC tl tx N)).2 := by
      rcases b3 with e | e
      · rw [hN.2] at e
        exact absurd e (by decide)
      · exact e.2
    rw [stC_s]
    have g := spE_b (tl := tl) (tx := tx) 121 (cmd tl tx (stC tl tx N)).2
    have g1 : (cmd tl tx (stC tl tx N)).2 ≤ sp tl tx (cmd tl tx (stC tl tx N)).2 := g.1
    exact ⟨g.2 b2, by omega⟩
theorem okC_all {tl : Nat} {tx : Nat → Int32} : ∀ d c, tl ≤ c + d → okC tl tx c → ∃ N, okC tl tx N ∧ (tl ≤ stC tl tx N ∨ (stC tl tx N < tl ∧ (cmd tl tx (stC tl tx N)).1 = 0)) := by
  intro d
  induction d with
  | zero =>
    intro c hc h
    have := stC_le c h
    exact ⟨c, h, Or.inl (by omega)⟩
  | succ d ih =>
    intro c hc h
    by_cases c1 : tl ≤ stC tl tx c
    · exact ⟨c, h, Or.inl c1⟩
    · rcases (cmd_b (tl := tl) (tx := tx) (stC tl tx c)).2.2 with e | e
      · exact ⟨c, h, Or.inr ⟨by omega, e⟩⟩
      · refine ih (c + 1) (by omega) (fun c' hc' => ?_)
        by_cases ce : c' = c
        · rw [ce]
          exact ⟨by omega, e.1⟩
        · exact h c' (by omega)
/-- the cells of a command -/
def goodC (tl : Nat) (tx : Nat → Int32) (m : Mem) (c : Nat) : Prop := m.I 19 c = nI (wd tx (stC tl tx c) (le_ tl tx (stC tl tx c))) ∧ (wd tx (stC tl tx c) (le_ tl tx (stC tl tx c)) < 4 → ∀ x, x < 3 → m.I 20 (c * 3 + x) = tx (sp tl tx (le_ tl tx (stC tl tx c)) + x) - 97)
def cW (a : Nat) : Prop := a = 17 ∨ a = 19 ∨ a = 20
section Parse2
variable {tl : Nat} {tx : Nat → Int32}
theorem c_step0 (ht : tl ≤ 120) {c x : Nat} (hc : c < 120) {m : Mem} (fuel : Nat) (hx : x < tl) (hb : (cmd tl tx x).2 ≤ tl) (hT : CT_ tl tx m) (h4 : m.I 17 4 = nI c) (hz : (cmd tl tx x).1 = 0) : ∃ m1, l_X1_parse_11 17 (fuel + 1) (nI x) (HH m) = some (.inr (nI (cmd tl tx x).2, HH m1)) ∧ CT_ tl tx m1 ∧ Fr cW m m1 := by
  have h120 : ¬ (120 : Int32) ≤ nI c := fun q => by
    rw [show (120 : Int32) = nI 120 from rfl, nI_leI (by omega) (by omega)] at q
    omega
  obtain ⟨m1, e1, k19, k20, v1, f1⟩ := c_cmd ht hc (show x ≤ tl by omega) hT h4
  obtain ⟨y, ey⟩ : ∃ y, y = cmd tl tx x := ⟨_, rfl⟩
  rw [← ey] at e1 hz hb ⊢
  have ee : enc y = -1 - nI y.2 := by
    unfold enc
    rw [if_neg (by omega)]
  have hy2 : y.2 < 201 := by omega
  obtain ⟨z, ez⟩ : ∃ z, z = (-1 : Int32) - nI y.2 := ⟨_, rfl⟩
  have n1 : ¬ (0 : Int32) ≤ z := by rw [ez]; exact (neg1 y.2 hy2).1
  have n2 : (-1 : Int32) - z = nI y.2 := by rw [ez]; exact (neg1 y.2 hy2).2
  rw [← ez] at ee
  refine ⟨m1, ?_, CT_f hT (by rw [(f1.1 17 (by unfold cV; omega)).1]) (f1.1 18 (by unfold cV; omega)).1, Fr_w (d := cW) f1 (fun a h => by unfold cV at h; unfold cW; omega)⟩
  rw [l_X1_parse_11, g_17_1, Option.bind_some, hT.1, if_neg (nle_of (by omega) hx), g_17_4, Option.bind_some, h4, if_neg h120, e1, ee]
  simp only [bind2]
  rw [if_neg n1]
  have fz : f_X1_faultIn z = some (nI y.2) := by
    unfold f_X1_faultIn
    rw [n2]
  rw [fz, Option.bind_some]
theorem c_step1 (ht : tl ≤ 120) {c x : Nat} (hc : c < 120) {m : Mem} (fuel : Nat) (hx : x < tl) (hb : (cmd tl tx x).2 ≤ tl) (hT : CT_ tl tx m) (h4 : m.I 17 4 = nI c) (hz : (cmd tl tx x).1 = 1) : ∃ m2, l_X1_parse_11 17 (fuel + 1) (nI x) (HH m) = l_X1_parse_11 17 fuel (nI (sp tl tx (cmd tl tx x).2)) (HH m2) ∧ CT_ tl tx m2 ∧ m2.I 17 4 = nI (c + 1) ∧
    (∀ j, j < c → m2.I 19 j = m.I 19 j) ∧ (∀ j, j < c * 3 → m2.I 20 j = m.I 20 j) ∧ m2.I 19 c = nI (wd tx x (le_ tl tx x)) ∧ (wd tx x (le_ tl tx x) < 4 → ∀ i, i < 3 → m2.I 20 (c * 3 + i) = tx (sp tl tx (le_ tl tx x) + i) - 97) ∧ Fr cW m m2 := by
  have h120 : ¬ (120 : Int32) ≤ nI c := fun q => by
    rw [show (120 : Int32) = nI 120 from rfl, nI_leI (by omega) (by omega)] at q
    omega
  obtain ⟨m1, e1, k19, k20, v1, f1⟩ := c_cmd ht hc (show x ≤ tl by omega) hT h4
  have v1 := v1 hz
  obtain ⟨y, ey⟩ : ∃ y, y = cmd tl tx x := ⟨_, rfl⟩
  rw [← ey] at e1 hz hb ⊢
  have ee : enc y = nI y.2 := by
    unfold enc
    rw [if_pos hz]
  have hT1 : CT_ tl tx m1 := CT_f hT (by rw [(f1.1 17 (by unfold cV; omega)).1]) (f1.1 18 (by unfold cV; omega)).1
  have h41 : m1.I 17 4 = nI c := by rw [(f1.1 17 (by unfold cV; omega)).1]; exact h4
  obtain ⟨m2, em2⟩ : ∃ m2, m2 = m1.sI 17 4 (nI (c + 1)) := ⟨_, rfl⟩
  have hT2 : CT_ tl tx m2 := by rw [em2]; exact CT_f hT1 (by rw [sI_at, if_neg (by omega)]) rfl
  have q19 : m2.I 19 = m1.I 19 := by rw [em2]; rfl
  have q20 : m2.I 20 = m1.I 20 := by rw [em2]; rfl
  refine ⟨m2, ?_, hT2, by rw [em2, sI_at, if_pos rfl], by rw [q19]; exact k19, by rw [q20]; exact k20, by rw [q19]; exact v1.1, by rw [q20]; exact v1.2, Fr_tr (Fr_w (d := cW) f1 (fun a h => by unfold cV at h; unfold cW; omega)) (by rw [em2]; exact Fr_sI (Fr_rf _ m1) (Or.inl rfl))⟩
  rw [l_X1_parse_11, g_17_1, Option.bind_some, hT.1, if_neg (nle_of (by omega) hx), g_17_4, Option.bind_some, h4, if_neg h120, e1, ee]
  simp only [bind2]
  rw [if_pos (le_nlt (nI_pos (by omega))), g_17_4, Option.bind_some, h41, add_1, p_17_4, Option.bind_some, ← em2, c_spaces hT2 ht (by omega), Option.bind_some]
theorem c_parse (ht : tl ≤ 120) {N : Nat} (hok : okC tl tx N) : ∀ r c (m : Mem) fuel, c + r = N → r < fuel → CT_ tl tx m → m.I 17 4 = nI c → (∀ c', c' < c → goodC tl tx m c') →
    ∃ m1 f1, l_X1_parse_11 17 fuel (nI (stC tl tx c)) (HH m) = l_X1_parse_11 17 f1 (nI (stC tl tx N)) (HH m1) ∧ fuel = f1 + r ∧ CT_ tl tx m1 ∧ m1.I 17 4 = nI N ∧ (∀ c', c' < N → goodC tl tx m1 c') ∧ Fr cW m m1 := by
  intro r
  induction r with
  | zero =>
    intro c m fuel hc hf hT h4 hg
    have e : c = N := by omega
    subst e
    exact ⟨m, fuel, rfl, rfl, hT, h4, hg, Fr_rf _ m⟩
  | succ r ih =>
    intro c m fuel hc hf hT h4 hg
    obtain ⟨f, rfl⟩ : ∃ f, fuel = f + 1 := ⟨fuel - 1, by omega⟩
    have hcN := hok c (by omega)
    obtain ⟨s1, s2⟩ := stC_le c (fun c' hc' => hok c' (by omega))
    have b2 := (cmd_b (tl := tl) (tx := tx) (stC tl tx c)).2.1 s1
    obtain ⟨m2, e2, hT2, h42, k19, k20, v19, v20, f2⟩ := c_step1 ht (show c < 120 by omega) f hcN.1 b2 hT h4 hcN.2
    have g2 : ∀ c', c' < c + 1 → goodC tl tx m2 c' := by
      intro c' hc'
      by_cases ce : c' = c
      · rw [ce]
        exact ⟨v19, v20⟩
      · have gg := hg c' (by omega)
        refine ⟨(k19 c' (by omega)).trans gg.1, fun h4 x hx => (k20 _ (by omega)).trans (gg.2 h4 x hx)⟩
    obtain ⟨m3, f3, e3, ef, T3, h43, g3, fr3⟩ := ih (c + 1) m2 f (by omega) (by omega) hT2 h42 g2
    exact ⟨m3, f3, e2.trans e3, by omega, T3, h43, g3, Fr_tr f2 fr3⟩
theorem c_parsed (ht : tl ≤ 120) {N : Nat} (hok : okC tl tx N) {m : Mem} (hT : CT_ tl tx m) : ∃ m1 f1, f_X1_parse 17 (HH m) = bindR1 (l_X1_parse_11 17 (f1 + 1) (nI (stC tl tx N)) (HH m1)) (fun h14 => some (-100, h14)) ∧ CT_ tl tx m1 ∧ m1.I 17 4 = nI N ∧ (∀ c', c' < N → goodC tl tx m1 c') ∧ Fr cW m m1 := by
  have hT1 : CT_ tl tx (m.sI 17 4 0) := CT_f hT (by rw [sI_at, if_neg (by omega)]) rfl
  obtain ⟨s1, s2⟩ := stC_le N hok
  obtain ⟨m1, f1, e1, ef, T1, h41, g1, fr⟩ := c_parse ht hok N 0 (m.sI 17 4 0) FU (by omega) (FUx (by omega)) hT1 (by rw [sI_at, if_pos rfl]; rfl) (fun c' hc' => absurd hc' (Nat.not_lt_zero c'))
  have e0 : f_X1_behindSpaces 17 0 (HH (m.sI 17 4 0)) = some (nI (stC tl tx 0)) := c_spaces hT1 ht (p := 0) (by omega)
  have hF : N < FU := FUx (by omega)
  obtain ⟨f2, rfl⟩ : ∃ f2, f1 = f2 + 1 := ⟨f1 - 1, by omega⟩
  refine ⟨m1, f2, ?_, T1, h41, g1, Fr_tr (Fr_sI (Fr_rf _ m) (Or.inl rfl)) fr⟩
  unfold f_X1_parse
  rw [o_17, Option.bind_some, p_17_4, Option.bind_some, e0, Option.bind_some, e1]
theorem c_parsed1 (ht : tl ≤ 120) {N : Nat} (hok : okC tl tx N) (he : tl ≤ stC tl tx N) {m : Mem} (hT : CT_ tl tx m) : ∃ m1, f_X1_parse 17 (HH m) = some (-100, HH m1) ∧ CT_ tl tx m1 ∧ m1.I 17 4 = nI N ∧ (∀ c', c' < N → goodC tl tx m1 c') ∧ Fr cW m m1 := by
  obtain ⟨s1, s2⟩ := stC_le N hok
  obtain ⟨m1, f1, e1, T1, h41, g1, fr⟩ := c_parsed ht hok hT
  refine ⟨m1, ?_, T1, h41, g1, fr⟩
  rw [e1, l_X1_parse_11, g_17_1, Option.bind_some, T1.1, if_pos (le_of (by omega) he)]
  rfl
theorem c_parsed0 (ht : tl ≤ 120) {N : Nat} (hok : okC tl tx N) (he : stC tl tx N < tl) (hz : (cmd tl tx (stC tl tx N)).1 = 0) {m : Mem} (hT : CT_ tl tx m) : ∃ m1, f_X1_parse 17 (HH m) = some (nI (cmd tl tx (stC tl tx N)).2, HH m1) ∧ CT_ tl tx m1 ∧ Fr cW m m1 := by
  obtain ⟨s1, s2⟩ := stC_le N hok
  have b2 := (cmd_b (tl := tl) (tx := tx) (stC tl tx N)).2.1 s1
  obtain ⟨m1, f1, e1, T1, h41, g1, fr⟩ := c_parsed ht hok hT
  obtain ⟨m2, e2, T2, fr2⟩ := c_step0 ht (show N < 120 by omega) f1 he b2 T1 h41 hz
  refine ⟨m2, ?_, T2, Fr_tr fr fr2⟩
  rw [e1, e2]
  rfl
end Parse2
/-! the reference reads -/
def DT_ (tl : Nat) (tx : Nat → Int32) (m : Mem) : Prop := m.I 61 5 = nI tl ∧ ∀ k, k < tl → m.I 65 k = tx k
theorem DT_f {tl : Nat} {tx : Nat → Int32} {m m1 : Mem} (h : DT_ tl tx m) (e1 : m1.I 61 5 = m.I 61 5) (e2 : m1.I 65 = m.I 65) : DT_ tl tx m1 := by
  unfold DT_
  rw [e1, e2]
  exact h
theorem sI_ov (m : Mem) (a k : Nat) (x y : Int32) : (m.sI a k x).sI a k y = m.sI a k y := by
  rw [sI_r m, rI_sI, sI_r m]
  congr 1
  funext j
  rw [upd_g, upd_g, upd_g]
  by_cases c : j = k
  · rw [if_pos c, if_pos c]
  · rw [if_neg c, if_neg c, if_neg c]
theorem sI_id {m : Mem} {a k : Nat} {x : Int32} (h : m.I a k = x) : m.sI a k x = m := by
  rw [sI_r, upd_id h, rI_id]
section Reads
variable {tl : Nat} {tx : Nat → Int32}
theorem m_at (ht : tl ≤ 120) {m : Mem} (hT : DT_ tl tx m) {p : Nat} (hp : p ≤ 200) (h20 : m.I 61 20 = nI p) (lo hi : Int32) : f_X4_isAt 61 lo hi (HH m) = some (if p < tl ∧ (¬ tx p < lo ∧ ¬ hi < tx p) then 1 else 0) := by
  unfold f_X4_isAt
  rw [o_61, Option.bind_some]
  simp only [g_61_20, g_61_5, g_61_4, Option.bind_some, h20, hT.1]
  by_cases c : p < tl
  · rw [if_neg (nle_of (by omega) c), r_65 m (by omega), Option.bind_some, hT.2 p c]
    by_cases c1 : tx p < lo
    · rw [in_n (Or.inl c1), Option.bind_some, if_pos rfl, if_neg (fun h => h.2.1 c1)]
    · by_cases c2 : hi < tx p
      · rw [in_n (Or.inr c2), Option.bind_some, if_pos rfl, if_neg (fun h => h.2.2 c2)]
      · rw [in_y c1 c2, Option.bind_some, if_neg (by decide), if_pos ⟨c, c1, c2⟩]
  · rw [if_pos (le_of (by omega) (by omega)), if_neg (fun h => c h.1)]
theorem m_at_y (ht : tl ≤ 120) {m : Mem} (hT : DT_ tl tx m) {p : Nat} (hp : p ≤ 200) (h20 : m.I 61 20 = nI p) {lo hi : Int32} (h : p < tl ∧ (¬ tx p < lo ∧ ¬ hi < tx p)) : f_X4_isAt 61 lo hi (HH m) = some 1 := by
  rw [m_at ht hT hp h20, if_pos h]
theorem m_at_n (ht : tl ≤ 120) {m : Mem} (hT : DT_ tl tx m) {p : Nat} (hp : p ≤ 200) (h20 : m.I 61 20 = nI p) {lo hi : Int32} (h : ¬ (p < tl ∧ (¬ tx p < lo ∧ ¬ hi < tx p))) : f_X4_isAt 61 lo hi (HH m) = some 0 := by
  rw [m_at ht hT hp h20, if_neg h]
theorem is32 (x : Int32) : (¬ x < 32 ∧ ¬ 32 < x) ↔ x = 32 := by
  constructor
  · rintro ⟨h1, h2⟩
    refine Int32.toInt_inj.mp ?_
    rw [Int32.lt_iff_toInt_lt] at h1 h2
    omega
  · rintro rfl
    decide
theorem is59 (x : Int32) : (¬ x < 59 ∧ ¬ 59 < x) ↔ x = 59 := by
  constructor
  · rintro ⟨h1, h2⟩
    refine Int32.toInt_inj.mp ?_
    rw [Int32.lt_iff_toInt_lt] at h1 h2
    omega
  · rintro rfl
    decide
theorem DT_20 {m : Mem} (hT : DT_ tl tx m) (x : Int32) : DT_ tl tx (m.sI 61 20 x) := DT_f hT (by rw [sI_at, if_neg (by omega)]) (by rw [sI_I, if_neg (by omega)])
theorem m_sp (ht : tl ≤ 120) {m : Mem} (hT : DT_ tl tx m) : ∀ d p fuel, p ≤ 200 → tl < p + d → d < fuel → l_X4_skips_5 61 fuel (HH (m.sI 61 20 (nI p))) = some (HH (m.sI 61 20 (nI (spE tl tx d p)))) := by
  intro d
  induction d with
  | zero =>
    intro p fuel hp hd hf
    obtain ⟨f, rfl⟩ : ∃ f, fuel = f + 1 := ⟨fuel - 1, by omega⟩
    have e0 := m_at_n ht (DT_20 hT (nI p)) hp (by rw [sI_at, if_pos rfl]) (lo := 32) (hi := 32) (fun h => by have := h.1; omega)
    rw [l_X4_skips_5, e0, Option.bind_some, if_pos rfl]
    rfl
  | succ d ih =>
    intro p fuel hp hd hf
    obtain ⟨f, rfl⟩ : ∃ f, fuel = f + 1 := ⟨fuel - 1, by omega⟩
    have e20 : (m.sI 61 20 (nI p)).I 61 20 = nI p := by rw [sI_at, if_pos rfl]
    by_cases c : p < tl ∧ tx p = 32
    · have e0 := m_at_y ht (DT_20 hT (nI p)) hp e20 (lo := 32) (hi := 32) ⟨c.1, (is32 _).mpr c.2⟩
      rw [l_X4_skips_5, e0, Option.bind_some, spE_s, if_pos c, if_neg (by decide), g_61_20, Option.bind_some, e20, add_1, p_61_20, Option.bind_some, sI_ov]
      exact ih (p + 1) f (by omega) (by omega) (by omega)
    · have e0 := m_at_n ht (DT_20 hT (nI p)) hp e20 (lo := 32) (hi := 32) (fun h => c ⟨h.1, (is32 _).mp h.2⟩)
      rw [l_X4_skips_5, e0, Option.bind_some, spE_s, if_neg c, if_pos rfl]
theorem m_skips (ht : tl ≤ 120) {m : Mem} (hT : DT_ tl tx m) {p : Nat} (hp : p ≤ 120) (h20 : m.I 61 20 = nI p) : f_X4_skips 61 (HH m) = some (if sp tl tx p = p then 0 else 1, HH (m.sI 61 20 (nI (sp tl tx p)))) := by
  have e := m_sp ht hT 121 p FU (by omega) (by omega) (FUx (by omega))
  rw [sI_id h20] at e
  have g1 : p ≤ sp tl tx p := (spE_b (tl := tl) (tx := tx) 121 p).1
  have hb : sp tl tx p ≤ 200 := by
    by_cases c : p ≤ tl
    · have := (spE_b (tl := tl) (tx := tx) 121 p).2 c
      have : sp tl tx p ≤ tl := this
      omega
    · have : sp tl tx p = p := by
        unfold sp
        rw [spE_s, if_neg (fun h => by omega)]
      omega
  have e20 : (m.sI 61 20 (nI (sp tl tx p))).I 61 20 = nI (sp tl tx p) := by rw [sI_at, if_pos rfl]
  unfold f_X4_skips
  rw [o_61, Option.bind_some, g_61_20, Option.bind_some, h20, e, Option.bind_some]
  show ((fI 4 20 (HH (m.sI 61 20 (nI (sp tl tx p)))) 61).bind fun v7 => if v7 ≤ nI p then some (0, HH (m.sI 61 20 (nI (sp tl tx p)))) else some (1, HH (m.sI 61 20 (nI (sp tl tx p))))) = _
  rw [g_61_20, Option.bind_some, e20]
  by_cases c : sp tl tx p = p
  · rw [if_pos c, if_pos (le_of (by omega) (by omega))]
  · rw [if_neg c, if_neg (nle_of (by omega) (by omega))]
end Reads
