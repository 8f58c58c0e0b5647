/-! run -/
/-- what the reference's second reading leaves -/
def cH (a : Nat) : Prop := a = 61 ∨ a = 62 ∨ a = 69 ∨ a = 70 ∨ a = 76
def gR (m m1 : Mem) : Prop := (∀ k, k ≠ 12 → k ≠ 20 → k ≠ 21 → m1.I 61 k = m.I 61 k) ∧ Fr cH m m1
theorem gR_tr {m m1 m2 : Mem} (h : gR m m1) (h2 : gR m1 m2) : gR m m2 := ⟨fun k a b c => (h2.1 k a b c).trans (h.1 k a b c), Fr_tr h.2 h2.2⟩
theorem gR_M {m m1 : Mem} (h : gM m m1) : gR m m1 := ⟨fun k _ b c => h.1 k b c, Fr_w (d := cH) h.2 (fun a h => by unfold cH; omega)⟩
theorem gR_D {m m1 : Mem} (h : gD m m1) : gR m m1 := ⟨fun k a _ _ => h.1 k a, Fr_w (d := cH) h.2 (fun a h => by unfold cG at h; unfold cH; omega)⟩
section Run
variable {tl : Nat} {tx : Nat → Int32}
theorem gR_DT {m m1 : Mem} (h : gR m m1) (hT : DT_ tl tx m) : DT_ tl tx m1 := DT_f hT (h.1 5 (by omega) (by omega) (by omega)) (h.2.1 65 (by unfold cH; omega)).1
theorem gR_LM {n : Nat} {m m1 : Mem} (h : gR m m1) (hL : LM n m) : LM n m1 := LM_fr hL (h.1 9 (by omega) (by omega) (by omega)) (h.1 11 (by omega) (by omega) (by omega)) (h.2.1 66 (by unfold cH; omega)).1 (h.2.1 67 (by unfold cH; omega)).1 (h.2.1 68 (by unfold cH; omega)).1
theorem m_parse (ht : tl ≤ 120) (hb : ∀ k, k < tl → ∃ b, b < 128 ∧ tx k = nI b) {N : Nat} (hok : okC tl tx N) : ∀ r c (m : Mem) fuel, c + r = N → r < fuel → DT_ tl tx m → m.I 61 20 = nI (stC tl tx c) →
    ∃ m1 f1, l_X4_run_15 61 fuel (HH m) = l_X4_run_15 61 f1 (HH m1) ∧ fuel = f1 + r ∧ m1.I 61 20 = nI (stC tl tx N) ∧ gM m m1 := by
  intro r
  induction r with
  | zero =>
    intro c m fuel hc hf hT h20
    have e : c = N := by omega
    subst e
    exact ⟨m, fuel, rfl, rfl, h20, ⟨fun _ _ _ => rfl, Fr_rf _ m⟩⟩
  | succ r ih =>
    intro c m fuel hc hf hT h20
    obtain ⟨f, rfl⟩ : ∃ f, fuel = f + 1 := ⟨fuel - 1, by omega⟩
    have hcN := hok c (by omega)
    obtain ⟨s1, s2⟩ := stC_le c (fun c' hc' => hok c' (by omega))
    have b2 := (cmd_b (tl := tl) (tx := tx) (stC tl tx c)).2.1 s1
    obtain ⟨m1, e1, v20, v1, g1⟩ := m_cmd ht hb s1 hT h20
    have hT1 := gM_DT g1 hT
    have es := m_skips ht hT1 (show (cmd tl tx (stC tl tx c)).2 ≤ 120 by omega) v20
    obtain ⟨m2, em2⟩ : ∃ m2, m2 = m1.sI 61 20 (nI (sp tl tx (cmd tl tx (stC tl tx c)).2)) := ⟨_, rfl⟩
    rw [← em2] at es
    have g2 : gM m1 m2 := by rw [em2]; exact gM_20 m1 _
    obtain ⟨m3, f3, e3, ef, v3, g3⟩ := ih (c + 1) m2 f (by omega) (by omega) (gM_DT g2 hT1) (by rw [em2, sI_at, if_pos rfl, stC_s])
    refine ⟨m3, f3, ?_, by omega, v3, gM_tr g1 (gM_tr g2 g3)⟩
    rw [← e3, l_X4_run_15, g_61_20, Option.bind_some, g_61_5, Option.bind_some, h20, hT.1, if_neg (nle_of (by omega) hcN.1), e1, hcN.2]
    simp only [bind2]
    rw [if_neg (show ¬ nI 1 = 0 by decide), es]
/-- the commands from c on, in both -/
theorem x_loop (ht : tl ≤ 120) (hb : ∀ k, k < tl → ∃ b, b < 128 ∧ tx k = nI b) {N : Nat} (hok : okC tl tx N) (he : tl ≤ stC tl tx N) {n : Nat} : ∀ r c (s : Nat → Int32) (M : Nat → Int64), c + r = N → GG n s M → ∃ (D : Nat) (s' : Nat → Int32) (M' : Nat → Int64), GG n s' M' ∧
    (∀ (m : Mem) fuel, r < fuel → LC n m → RS 9 m s M → m.I 17 4 = nI N → (∀ c', c' < N → goodC tl tx m c') → ∃ m1, l_X3_run_26 0 fuel (nI c) (HH m) = some (nI D, HH m1) ∧ RS 9 m1 s' M' ∧ Fr (cS 9) m m1) ∧
    (∀ (m : Mem) fuel, r + 1 < fuel → LM n m → m.I 62 = s → DT_ tl tx m → m.I 61 20 = nI (stC tl tx c) → ∃ m1, l_X4_run_68 61 fuel (nI c) 1 (HH m) = some (nI D, HH m1) ∧ m1.I 62 = s' ∧ gR m m1) := by
  intro r
  induction r with
  | zero =>
    intro c s M hc g
    have e : c = N := by omega
    subst e
    obtain ⟨s1, s2⟩ := stC_le c hok
    refine ⟨c, s, M, g, ?_, ?_⟩
    · intro m fuel hf hL hs h4 _
      obtain ⟨f, rfl⟩ : ∃ f, fuel = f + 1 := ⟨fuel - 1, by omega⟩
      refine ⟨m, ?_, hs, Fr_rf _ m⟩
      rw [l_X3_run_26, g_0_2, Option.bind_some, g_17_4, Option.bind_some, h4, if_pos (Int32.le_refl _)]
    · intro m fuel hf hL hs hT h20
      obtain ⟨f, rfl⟩ : ∃ f, fuel = f + 1 := ⟨fuel - 1, by omega⟩
      refine ⟨m, ?_, hs, ⟨fun _ _ _ _ => rfl, Fr_rf _ m⟩⟩
      rw [l_X4_run_68, g_61_20, Option.bind_some, g_61_5, Option.bind_some, h20, hT.1, if_pos (le_of (by omega) he)]
  | succ r ih =>
    intro c s M hc g
    have hcN := hok c (by omega)
    obtain ⟨s1, s2⟩ := stC_le c (fun c' hc' => hok c' (by omega))
    have b2 := (cmd_b (tl := tl) (tx := tx) (stC tl tx c)).2.1 s1
    have sN := stC_le N hok
    have hw : wd tx (stC tl tx c) (le_ tl tx (stC tl tx c)) < 6 := by
      have h6 := wd_le tx (stC tl tx c) (le_ tl tx (stC tl tx c))
      by_cases h : wd tx (stC tl tx c) (le_ tl tx (stC tl tx c)) = 6
      · have : cmd tl tx (stC tl tx c) = (0, stC tl tx c) := by unfold cmd; rw [if_pos h]
        have h2 := hcN.2
        rw [this] at h2
        exact no01 h2
      · omega
    obtain ⟨ok, s', M', hk, g', hc1, hm1⟩ := x_step g hw (fun x => tx (sp tl tx (le_ tl tx (stC tl tx c)) + x) - 97)
    -- the class: a command
    have cone : ∀ (m : Mem) fuel, LC n m → RS 9 m s M → m.I 17 4 = nI N → goodC tl tx m c → ∃ m1, l_X3_run_26 0 (fuel + 1) (nI c) (HH m) = (if nI ok = 0 then some (nI c, HH m1) else l_X3_run_26 0 fuel (nI (c + 1)) (HH m1)) ∧ RS 9 m1 s' M' ∧ Fr (cS 9) m m1 := by
      intro m fuel hL hs h4 hg
      obtain ⟨m1, e1, r1, f1⟩ := hc1 m c (by omega) hL hs hg.1 hg.2
      refine ⟨m1, ?_, r1, f1⟩
      rw [l_X3_run_26, g_0_2, Option.bind_some, g_17_4, Option.bind_some, h4, if_neg (nle_of (by omega) (by omega)), e1, add_1]
      rfl
    -- the reference: a command
    have mone : ∀ (m : Mem) fuel, LM n m → m.I 62 = s → DT_ tl tx m → m.I 61 20 = nI (stC tl tx c) → ∃ m1, l_X4_run_68 61 (fuel + 1) (nI c) 1 (HH m) = l_X4_run_68 61 fuel (nI (c + ok)) (nI ok) (HH m1) ∧ m1.I 62 = s' ∧ gR m m1 ∧ m1.I 61 20 = nI (stC tl tx (c + 1)) := by
      intro m fuel hL hs hT h20
      obtain ⟨m1, e1, v20, v1, g1⟩ := m_cmd ht hb s1 hT h20
      obtain ⟨v21, v76⟩ := v1 hcN.2
      have hL1 := gR_LM (gR_M g1) hL
      have e62 : m1.I 62 = s := by rw [(g1.2.1 62 (by omega)).1]; exact hs
      obtain ⟨m2, v, e2, hv, r2, g2⟩ := hm1 m1 hL1 e62 v21 v76
      have hT2 : DT_ tl tx m2 := gR_DT (gR_D g2) (gM_DT g1 hT)
      have q20 : m2.I 61 20 = nI (cmd tl tx (stC tl tx c)).2 := by rw [g2.1 20 (by omega)]; exact v20
      have es := m_skips ht hT2 (show (cmd tl tx (stC tl tx c)).2 ≤ 120 by omega) q20
      obtain ⟨m3, em3⟩ : ∃ m3, m3 = m2.sI 61 20 (nI (sp tl tx (cmd tl tx (stC tl tx c)).2)) := ⟨_, rfl⟩
      rw [← em3] at es
      refine ⟨m3, ?_, by rw [em3, sI_I, if_neg (by omega)]; exact r2, gR_tr (gR_M g1) (gR_tr (gR_D g2) (by rw [em3]; exact gR_M (gM_20 m2 _))), by rw [em3, sI_at, if_pos rfl, stC_s]⟩
      rw [l_X4_run_68, g_61_20, Option.bind_some, g_61_5, Option.bind_some, h20, hT.1, if_neg (nle_of (by omega) hcN.1), if_neg (show ¬ (1 : Int32) = 0 by decide), e1, hcN.2]
      simp only [bind2]
      rw [if_neg (show ¬ nI 1 = 0 by decide), e2]
      simp only [bind2]
      rcases hk with h | h
      · have hv0 : ¬ v = 0 := fun q => by
          have := hv.mp q
          omega
        rw [if_neg hv0, h]
        simp only [bind2]
        rw [if_pos trivial, Option.bind_some, es, add_0]
        rfl
      · rw [if_pos (hv.mpr h), h]
        simp only [bind2]
        rw [if_neg (show ¬ (1 : Int32) = 0 by decide), Option.bind_some, es, add_1]
        rfl
    rcases hk with h | h
    · subst h
      refine ⟨c, s', M', g', ?_, ?_⟩
      · intro m fuel hf hL hs h4 hg
        obtain ⟨f, rfl⟩ : ∃ f, fuel = f + 1 := ⟨fuel - 1, by omega⟩
        obtain ⟨m1, e1, r1, f1⟩ := cone m f hL hs h4 (hg c (by omega))
        exact ⟨m1, by rw [e1, if_pos (show nI 0 = 0 from rfl)], r1, f1⟩
      · intro m fuel hf hL hs hT h20
        obtain ⟨f, rfl⟩ : ∃ f, fuel = f + 1 + 1 := ⟨fuel - 2, by omega⟩
        obtain ⟨m1, e1, r1, g1, v20⟩ := mone m (f + 1) hL hs hT h20
        refine ⟨m1, ?_, r1, g1⟩
        rw [e1, Nat.add_zero, l_X4_run_68, g_61_20, Option.bind_some, g_61_5, Option.bind_some, if_pos (show nI 0 = 0 from rfl)]
        split <;> rfl
    · subst h
      obtain ⟨D, s2, M2, g2, hc2, hm2⟩ := ih (c + 1) s' M' (by omega) g'
      refine ⟨D, s2, M2, g2, ?_, ?_⟩
      · intro m fuel hf hL hs h4 hg
        obtain ⟨f, rfl⟩ : ∃ f, fuel = f + 1 := ⟨fuel - 1, by omega⟩
        obtain ⟨m1, e1, r1, f1⟩ := cone m f hL hs h4 (hg c (by omega))
        have q17 : m1.I 17 4 = nI N := by rw [(f1.1 17 (by unfold cS; omega)).1]; exact h4
        have qg : ∀ c', c' < N → goodC tl tx m1 c' := fun c' hc' => by
          have := hg c' hc'
          unfold goodC
          rw [(f1.1 19 (by unfold cS; omega)).1, (f1.1 20 (by unfold cS; omega)).1]
          exact this
        obtain ⟨m2, e2, r2, f2⟩ := hc2 m1 f (by omega) (LC_9 hL f1) r1 q17 qg
        refine ⟨m2, ?_, r2, Fr_tr f1 f2⟩
        rw [e1, if_neg (show ¬ nI 1 = 0 by decide)]
        exact e2
      · intro m fuel hf hL hs hT h20
        obtain ⟨f, rfl⟩ : ∃ f, fuel = f + 1 := ⟨fuel - 1, by omega⟩
        obtain ⟨m1, e1, r1, g1, v20⟩ := mone m f hL hs hT h20
        obtain ⟨m2, e2, r2, gg2⟩ := hm2 m1 f (by omega) (gR_LM g1 hL) r1 (gR_DT g1 hT) v20
        exact ⟨m2, by rw [e1]; exact e2, r2, gR_tr g1 gg2⟩
end Run
section Run2
variable {n : Nat} {s : Nat → Int32} {M : Nat → Int64} {q : Nat} {P : Nat → Nat → Int32} {PM : Nat → Nat → Int64} {tl : Nat} {tx : Nat → Int32} {m m1 : Mem}
theorem CC_W (h : CC n s M q P PM tl tx m) (hq : q ≤ 4) (f : Fr cW m m1) (e : m1.I 17 1 = m.I 17 1) : CC n s M q P PM tl tx m1 := by
  obtain ⟨h1, h2, h3, h4, h5, h6, h7, h8⟩ := h
  have u : ∀ a, ¬ cW a → m1.I a = m.I a ∧ m1.J a = m.J a := f.1
  refine ⟨LC_of h1 (fun a _ hb => u a (by unfold cW; omega)), LZ_of h2 (u 4 (by unfold cW; omega)).1, RS_of h3 (fun a ha => u a (by unfold cS at ha; unfold cW; omega)), by rw [(u 0 (by unfold cW; omega)).1]; exact h4, by rw [f.2]; exact h5, fun i hi => ?_, by rw [e]; exact h7, fun k hk => by rw [(u 18 (by unfold cW; omega)).1]; exact h8 k hk⟩
  rw [f.2]
  exact RS_of (h6 i hi) (fun a ha => u a (by have := vS_lt (h5.1 i (by omega)) ha; unfold cW; omega))
/-- saving leaves the script's cells -/
theorem C_now2 (h : CC n s M q P PM tl tx m) (b : BB n s M q P PM tl tx) : ∃ m1, f_X3_save 0 (HH m) = some (HH m1) ∧ CC n s M (up4 q) (psh q P s) (psh q PM M) tl tx m1 ∧ upC m m1 ∧ ∀ a, a = 17 ∨ a = 19 ∨ a = 20 → m1.I a = m.I a := by
  have h1 := b.1.2.2.1
  have hq := b.2.1
  obtain ⟨k1, k2, k3, k4, k5, k6, k7, k8⟩ := h
  obtain ⟨m1, e1, a1, b1, r1, c1, f1⟩ := c_save k3 h1 hq k4 k5
  have hu : up4 q ≤ 4 ∧ 1 ≤ up4 q := by unfold up4; split <;> omega
  have hb : vS (m1.V (up4 q - 1)) := b1.1 _ (by omega)
  have u : ∀ a, a ≠ 0 → a < 29 ∨ 61 ≤ a → m1.I a = m.I a ∧ m1.J a = m.J a := fun a h0 ha => f1 a h0 (fun hc => by have := vS_lt hb hc; omega)
  refine ⟨m1, e1, ⟨LC_of k1 (fun a _ hb => u a (by omega) (by omega)), LZ_of k2 (u 4 (by omega) (by omega)).1, RS_of k3 (fun a ha => u a (by unfold cS at ha; omega) (by unfold cS at ha; omega)), a1, b1, ?_, ?_, ?_⟩, fun a ha => u a (by omega) (by omega), fun a ha => (u a (by omega) (by omega)).1⟩
  · intro i hi
    unfold psh
    by_cases c : i + 1 = up4 q
    · rw [if_pos c, if_pos c, show i = up4 q - 1 by omega]
      exact r1
    · rw [if_neg c, if_neg c, c1 i (by omega)]
      have hiq : (if q = 4 then i + 1 else i) < q := by
        unfold up4 at hi c
        split <;> split at hi <;> split at c <;> omega
      have hne : m1.V i ≠ m1.V (up4 q - 1) := fun e => by
        have := b1.2 _ _ (by omega) (by omega) e
        omega
      refine RS_of (k6 _ hiq) (fun a ha => ?_)
      rw [← c1 i (by omega)] at ha
      have hvi := b1.1 i (by omega)
      refine f1 a (by have := vS_lt hvi ha; omega) (fun hc => hne ?_)
      unfold cS at ha hc
      rcases hvi with e | e | e | e <;> rcases hb with e2 | e2 | e2 | e2 <;> rw [e] at ha ⊢ <;> rw [e2] at hc ⊢ <;> omega
  · rw [(u 17 (by omega) (by omega)).1]
    exact k7
  · rw [(u 18 (by omega) (by omega)).1]
    exact k8
theorem DD_gR {s' : Nat → Int32} (h : DD n s q P tl tx m) (g : gR m m1) (e : m1.I 62 = s') : DD n s' q P tl tx m1 :=
  DD_w h (fun k hk => g.1 k (by omega) (by omega) (by omega)) (fun a h1 h2 h3 => (g.2.1 a (by unfold cH; omega)).1) e
theorem up_gR (g : gR m m1) : upM m m1 := upM_fr g.2 (fun a h => by unfold cH at h; omega)
theorem k_run {m : Mem} (hi : INV m) : okN (f_X3_run 0) (f_X4_run 61) m := by
  obtain ⟨n, s, M, q, P, PM, tl, tx, hC, hD, b⟩ := INV_out hi
  have ht := b.2.2.2.1
  have hb : ∀ k, k < tl → ∃ b, b < 128 ∧ tx k = nI b := by
    intro k hk
    obtain ⟨h0, h127⟩ := b.2.2.2.2 k hk
    have hx : ¬ tx k < 0 := fun h => nle_lt h h0
    obtain ⟨e1, e2⟩ := i32_nat hx
    rw [Int32.le_iff_toInt_le] at h127
    have k127 : (127 : Int32).toInt = 127 := by decide
    exact ⟨_, by omega, e1⟩
  have hT : CT_ tl tx m := ⟨hC.2.2.2.2.2.2.1, hC.2.2.2.2.2.2.2⟩
  obtain ⟨N, hok, hend⟩ := okC_all (tl := tl) (tx := tx) tl 0 (by omega) (fun c hc => absurd hc (Nat.not_lt_zero c))
  obtain ⟨s1, s2⟩ := stC_le N hok
  -- the reference's first reading
  have first : ∀ m2, DD n s q P tl tx m2 → ∃ m3 f3, (f_X4_skips 61 (HH ((m2.sI 61 6 0).sI 61 20 0))) = some (if sp tl tx 0 = 0 then 0 else 1, HH m3) ∧ (∃ m4, l_X4_run_15 61 FU (HH m3) = l_X4_run_15 61 (f3 + 1) (HH m4) ∧ m4.I 61 20 = nI (stC tl tx N) ∧ gR (m2.sI 61 6 0) m4 ∧ DT_ tl tx m4 ∧ m4.I 62 = s) := by
    intro m2 hD2
    have hT2 : DT_ tl tx m2 := ⟨hD2.2.2.2.2.1, hD2.2.2.2.2.2⟩
    have hT3 : DT_ tl tx ((m2.sI 61 6 0).sI 61 20 0) := DT_20 (DT_f hT2 (by rw [sI_at, if_neg (by omega)]) (by rw [sI_I, if_neg (by omega)])) 0
    have es := m_skips ht hT3 (p := 0) (by omega) (by rw [sI_at, if_pos rfl]; rfl)
    rw [sI_ov] at es
    obtain ⟨m3, em3⟩ : ∃ m3, m3 = (m2.sI 61 6 0).sI 61 20 (nI (sp tl tx 0)) := ⟨_, rfl⟩
    rw [← em3] at es
    have hT4 : DT_ tl tx m3 := by rw [em3]; exact DT_20 (DT_f hT2 (by rw [sI_at, if_neg (by omega)]) (by rw [sI_I, if_neg (by omega)])) _
    obtain ⟨m4, f4, e4, ef, v4, g4⟩ := m_parse ht hb hok N 0 m3 FU (by omega) (FUx (by omega)) hT4 (by rw [em3, sI_at, if_pos rfl]; rfl)
    have hF : N + 1 < FU := FUx (by omega)
    obtain ⟨f5, rfl⟩ : ∃ f5, f4 = f5 + 1 := ⟨f4 - 1, by omega⟩
    have gg : gR (m2.sI 61 6 0) m4 := gR_tr (by rw [em3]; exact gR_M (gM_20 _ _)) (gR_M g4)
    refine ⟨m3, f5, es, m4, e4, v4, gg, gM_DT g4 hT4, ?_⟩
    rw [(g4.2.1 62 (by omega)).1, em3, sI_I, if_neg (by omega), sI_I, if_neg (by omega)]
    exact hD2.2.1
  by_cases ce : tl ≤ stC tl tx N
  · -- no fault
    obtain ⟨D, s', M', g', hc, hm⟩ := x_loop ht hb hok ce N 0 s M (by omega) b.1
    obtain ⟨m1, e1, T1, v17, vg, f1⟩ := c_parsed1 ht hok ce hT
    have C1 := CC_W hC b.2.1 f1 (T1.1.trans hT.1.symm)
    obtain ⟨m2, e2, C2, u2, k2⟩ := C_now2 C1 b
    have vg2 : ∀ c', c' < N → goodC tl tx m2 c' := fun c' hc' => by
      have := vg c' hc'
      unfold goodC
      rw [k2 19 (by omega), k2 20 (by omega)]
      exact this
    obtain ⟨m3, e3, r3, f3⟩ := hc m2 FU (FUx (by omega)) C2.1 C2.2.2.1 (by rw [k2 17 (by omega)]; exact v17) vg2
    refine N_ok (v := nI D) (m1 := m3) ?_ (CC_now C2 (up4_le q b.2.1) f3 r3) (upC_tr (upC_fr f1 (fun a h => by unfold cW at h; omega)) (upC_tr u2 (upC_9 f3))) hD (BB_psh b g') (fun m4 hD4 => ?_)
    · have e3 : l_X3_run_26 0 FU 0 (HH m2) = _ := e3
      simp only [f_X3_run, o_0, g_0_2, Option.bind_some, e1, bind2, if_true, e2, e3]
    · obtain ⟨m5, f5, e5, m6, e6, v6, g6, T6, s6⟩ := first m4 hD4
      obtain ⟨d1, d2, d3⟩ := fl hD4 0
      have D6 : DD n s q P tl tx m6 := DD_gR d1 g6 s6
      obtain ⟨m7, e7, D7, a7, u7⟩ := d_hold D6
      have T7 : DT_ tl tx m7 := ⟨D7.2.2.2.2.1, D7.2.2.2.2.2⟩
      have es := m_skips ht (DT_20 T7 0) (p := 0) (by omega) (by rw [sI_at, if_pos rfl]; rfl)
      rw [sI_ov] at es
      obtain ⟨m8, em8⟩ : ∃ m8, m8 = m7.sI 61 20 (nI (sp tl tx 0)) := ⟨_, rfl⟩
      rw [← em8] at es
      have g8 : gR m7 m8 := by rw [em8]; exact gR_M (gM_20 m7 _)
      have D8 : DD n s q P tl tx m8 := DD_gR D7 g8 (by rw [em8, sI_I, if_neg (by omega)]; exact D7.2.1)
      obtain ⟨m9, e9, r9, g9⟩ := hm m8 FU (FUx (by omega)) D8.1 D8.2.1 ⟨D8.2.2.2.2.1, D8.2.2.2.2.2⟩ (by rw [em8, sI_at, if_pos rfl]; rfl)
      obtain ⟨m10, e10, D10, z10, u10⟩ := d_ends (DD_gR D8 g9 r9) (AS_f (AS_f a7 (by rw [em8, sI_I, if_neg (by omega)])) (g9.2.1 64 (by unfold cH; omega)).1) b.2.1 (nI D)
      refine ⟨m10, ?_, D10, upM_tr d3 (upM_tr (up_gR g6) (upM_tr u7 (upM_tr (up_gR g8) (upM_tr (up_gR g9) u10))))⟩
      have e9 : l_X4_run_68 61 FU 0 1 (HH m8) = _ := e9
      have e68 : l_X4_run_15 61 FU (HH m5) = some (.inl (HH m6)) := by
        rw [e6, l_X4_run_15, g_61_20, Option.bind_some, g_61_5, Option.bind_some, v6, T6.1, if_pos (le_of (by omega) ce)]
      simp only [f_X4_run, o_0, g_0_0, g_0_1, g_0_2, g_0_3, g_0_4, p_0_4, g_0_5, g_0_6, g_0_7, g_0_8, g_0_9, g_0_10, g_0_11, o_1, g_1_0, p_1_0, g_1_1, p_1_1, g_1_2, p_1_2, g_1_3, g_1_4, g_1_5, g_1_6, g_1_7, g_1_8, g_1_9, r_2, w_2, r_3, w_3, r_4, w_4, r_5, w_5, r_6, w_6, r_7, w_7, r_8, w_8, o_9, g_9_0, p_9_0, g_9_1, p_9_1, g_9_2, p_9_2, g_9_3, g_9_4, g_9_5, g_9_6, g_9_7, g_9_8, g_9_9, r_10, w_10, r_11, w_11, r_12, w_12, r_13, w_13, r_14, w_14, r_15, w_15, r_16, w_16, o_17, g_17_0, g_17_1, p_17_1, g_17_2, g_17_3, g_17_4, p_17_4, r_18, w_18, r_19, w_19, r_20, w_20, r_22, w_22, r_23, w_23, r_24, w_24, r_25, w_25, r_26, w_26, r_27, w_27, r_28, w_28, o_29, g_29_0, p_29_0, g_29_1, p_29_1, g_29_2, p_29_2, g_29_3, g_29_4, g_29_5, g_29_6, g_29_7, g_29_8, g_29_9, r_30, w_30, r_31, w_31, r_32, w_32, r_33, w_33, r_34, w_34, r_35, w_35, r_36, w_36, o_37, g_37_0, p_37_0, g_37_1, p_37_1, g_37_2, p_37_2, g_37_3, g_37_4, g_37_5, g_37_6, g_37_7, g_37_8, g_37_9, r_38, w_38, r_39, w_39, r_40, w_40, r_41, w_41, r_42, w_42, r_43, w_43, r_44, w_44, o_45, g_45_0, p_45_0, g_45_1, p_45_1, g_45_2, p_45_2, g_45_3, g_45_4, g_45_5, g_45_6, g_45_7, g_45_8, g_45_9, r_46, w_46, r_47, w_47, r_48, w_48, r_49, w_49, r_50, w_50, r_51, w_51, r_52, w_52, o_53, g_53_0, p_53_0, g_53_1, p_53_1, g_53_2, p_53_2, g_53_3, g_53_4, g_53_5, g_53_6, g_53_7, g_53_8, g_53_9, r_54, w_54, r_55, w_55, r_56, w_56, r_57, w_57, r_58, w_58, r_59, w_59, r_60, w_60, o_61, g_61_0, g_61_1, g_61_2, g_61_3, p_61_3, g_61_4, g_61_5, p_61_5, g_61_6, p_61_6, g_61_7, g_61_8, g_61_9, p_61_9, g_61_10, g_61_11, p_61_11, g_61_12, p_61_12, g_61_13, g_61_14, g_61_15, g_61_16, g_61_17, g_61_18, g_61_19, g_61_20, p_61_20, g_61_21, p_61_21, g_61_22, g_61_23, p_61_23, r_62, w_62, r_63, w_63, r_64, w_64, r_65, w_65, r_66, w_66, r_67, w_67, r_68, w_68, r_69, w_69, r_70, w_70, r_71, w_71, r_72, w_72, r_73, w_73, r_74, w_74, r_75, w_75, r_76, w_76, r_77, w_77, Option.bind_some, e5, bind2, e68, bindR1, e7, es, e9, e10]
  · -- a fault
    have hx := hend.resolve_left ce
    have b2 := (cmd_b (tl := tl) (tx := tx) (stC tl tx N)).2.1 s1
    obtain ⟨m1, e1, T1, f1⟩ := c_parsed0 ht hok hx.1 hx.2 hT
    have C1 := CC_W hC b.2.1 f1 (T1.1.trans hT.1.symm)
    obtain ⟨y, ey⟩ : ∃ y, y = (cmd tl tx (stC tl tx N)).2 := ⟨_, rfl⟩
    rw [← ey] at e1 b2
    refine N_ok (v := (-1000 : Int32) - nI y) (m1 := m1) ?_ C1 (upC_fr f1 (fun a h => by unfold cW at h; omega)) hD b (fun m4 hD4 => ?_)
    · simp only [f_X3_run, o_0, g_0_2, Option.bind_some, e1, bind2, if_neg (nI_no (show y < 2 ^ 31 by omega))]
    · obtain ⟨m5, f5, e5, m6, e6, v6, g6, T6, s6⟩ := first m4 hD4
      obtain ⟨d1, d2, d3⟩ := fl hD4 0
      have D6 : DD n s q P tl tx m6 := DD_gR d1 g6 s6
      obtain ⟨m7, e7, v20, v1, g7⟩ := m_cmd ht hb s1 T6 v6
      rw [← ey] at v20
      have D7 : DD n s q P tl tx m7 := DD_gR D6 (gR_M g7) (by rw [(g7.2.1 62 (by omega)).1]; exact s6)
      refine ⟨m7, ?_, D7, upM_tr d3 (upM_tr (up_gR g6) (up_gR (gR_M g7)))⟩
      have e68 : l_X4_run_15 61 FU (HH m5) = some (.inr ((-1000 : Int32) - nI y, HH m7)) := by
        rw [e6, l_X4_run_15, g_61_20, Option.bind_some, g_61_5, Option.bind_some, v6, T6.1, if_neg (nle_of (by omega) hx.1), e7, hx.2]
        simp only [bind2]
        rw [if_pos (show nI 0 = 0 from rfl), g_61_20, Option.bind_some, v20]
      simp only [f_X4_run, o_0, g_0_0, g_0_1, g_0_2, g_0_3, g_0_4, p_0_4, g_0_5, g_0_6, g_0_7, g_0_8, g_0_9, g_0_10, g_0_11, o_1, g_1_0, p_1_0, g_1_1, p_1_1, g_1_2, p_1_2, g_1_3, g_1_4, g_1_5, g_1_6, g_1_7, g_1_8, g_1_9, r_2, w_2, r_3, w_3, r_4, w_4, r_5, w_5, r_6, w_6, r_7, w_7, r_8, w_8, o_9, g_9_0, p_9_0, g_9_1, p_9_1, g_9_2, p_9_2, g_9_3, g_9_4, g_9_5, g_9_6, g_9_7, g_9_8, g_9_9, r_10, w_10, r_11, w_11, r_12, w_12, r_13, w_13, r_14, w_14, r_15, w_15, r_16, w_16, o_17, g_17_0, g_17_1, p_17_1, g_17_2, g_17_3, g_17_4, p_17_4, r_18, w_18, r_19, w_19, r_20, w_20, r_22, w_22, r_23, w_23, r_24, w_24, r_25, w_25, r_26, w_26, r_27, w_27, r_28, w_28, o_29, g_29_0, p_29_0, g_29_1, p_29_1, g_29_2, p_29_2, g_29_3, g_29_4, g_29_5, g_29_6, g_29_7, g_29_8, g_29_9, r_30, w_30, r_31, w_31, r_32, w_32, r_33, w_33, r_34, w_34, r_35, w_35, r_36, w_36, o_37, g_37_0, p_37_0, g_37_1, p_37_1, g_37_2, p_37_2, g_37_3, g_37_4, g_37_5, g_37_6, g_37_7, g_37_8, g_37_9, r_38, w_38, r_39, w_39, r_40, w_40, r_41, w_41, r_42, w_42, r_43, w_43, r_44, w_44, o_45, g_45_0, p_45_0, g_45_1, p_45_1, g_45_2, p_45_2, g_45_3, g_45_4, g_45_5, g_45_6, g_45_7, g_45_8, g_45_9, r_46, w_46, r_47, w_47, r_48, w_48, r_49, w_49, r_50, w_50, r_51, w_51, r_52, w_52, o_53, g_53_0, p_53_0, g_53_1, p_53_1, g_53_2, p_53_2, g_53_3, g_53_4, g_53_5, g_53_6, g_53_7, g_53_8, g_53_9, r_54, w_54, r_55, w_55, r_56, w_56, r_57, w_57, r_58, w_58, r_59, w_59, r_60, w_60, o_61, g_61_0, g_61_1, g_61_2, g_61_3, p_61_3, g_61_4, g_61_5, p_61_5, g_61_6, p_61_6, g_61_7, g_61_8, g_61_9, p_61_9, g_61_10, g_61_11, p_61_11, g_61_12, p_61_12, g_61_13, g_61_14, g_61_15, g_61_16, g_61_17, g_61_18, g_61_19, g_61_20, p_61_20, g_61_21, p_61_21, g_61_22, g_61_23, p_61_23, r_62, w_62, r_63, w_63, r_64, w_64, r_65, w_65, r_66, w_66, r_67, w_67, r_68, w_68, r_69, w_69, r_70, w_70, r_71, w_71, r_72, w_72, r_73, w_73, r_74, w_74, r_75, w_75, r_76, w_76, r_77, w_77, Option.bind_some, e5, bind2, e68, bindR1]
end Run2
