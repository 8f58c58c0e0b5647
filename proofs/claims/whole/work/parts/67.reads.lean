/-! the reference reads a command -/
/-- the letters from p on -/
def vlL (tx : Nat → Int32) (p : Nat) : Nat → Int64
  | 0 => 0
  | k + 1 => stL (vlL tx p k) (tx (p + k))
theorem vlL_s (tx : Nat → Int32) (p k : Nat) : vlL tx p (k + 1) = stL (vlL tx p k) (tx (p + k)) := rfl
def wlL (w : Nat) : Nat → Int64
  | 0 => 0
  | k + 1 => stL (wlL w k) (byW w k)
theorem wlL_s (w k : Nat) : wlL w (k + 1) = stL (wlL w k) (byW w k) := rfl
def wb (w c : Nat) : Nat := (byW w c).toInt.toNat
theorem byW_e : ∀ w, w < 6 → ∀ c, c < 6 → byW w c = nI (wb w c) ∧ wb w c < 128 := by decide +kernel
theorem vl_eq {tx : Nat → Int32} {p w : Nat} (hw : w < 6) : ∀ k, k ≤ 6 → (∀ c, c < k → ∃ b, b < 128 ∧ tx (p + c) = nI b) → smK k (vlL tx p k) ∧ smK k (wlL w k) ∧ (vlL tx p k = wlL w k ↔ ∀ c, c < k → byW w c = tx (p + c)) := by
  intro k
  induction k with
  | zero => exact fun _ _ => ⟨smK_0, smK_0, fun _ c hc => absurd hc (Nat.not_lt_zero c), fun _ => rfl⟩
  | succ k ih =>
    intro hk hb
    obtain ⟨s1, s2, s3⟩ := ih (by omega) (fun c hc => hb c (by omega))
    obtain ⟨b, hb1, hb2⟩ := hb k (by omega)
    obtain ⟨w1, w2⟩ := byW_e w hw k (by omega)
    rw [vlL_s, wlL_s, hb2, w1]
    refine ⟨smK_s hb1 s1, smK_s w2 s2, fun h => ?_, fun h => ?_⟩
    · obtain ⟨h1, h2⟩ := st_inj hb1 w2 (smL_K (by omega) s1) (smL_K (by omega) s2) h
      intro c hc
      by_cases ck : c = k
      · rw [ck, hb2, w1, h1]
      · exact s3.mp h2 c (by omega)
    · have h1 := h k (by omega)
      rw [hb2, w1] at h1
      rw [s3.mpr (fun c hc => h c (by omega)), h1]
theorem wl_c : wlL 0 4 = 1886156147 ∧ wlL 1 5 = 469920281971 ∧ wlL 2 4 = 2053468783 ∧ wlL 3 4 = 1685221232 ∧ wlL 4 6 = 110386873988709 ∧ wlL 5 6 = 120299659095922 := by decide +kernel
theorem vl_ms {tx : Nat → Int32} {p w : Nat} (hw : w < 6) (hb : ∀ c, c < lnW w → ∃ b, b < 128 ∧ tx (p + c) = nI b) : vlL tx p (lnW w) = wlL w (lnW w) ↔ msW tx w p = 0 := by
  rw [(vl_eq hw (lnW w) (lnW_le w hw) hb).2.2]
  unfold msW
  rw [cntN_0]
  exact ⟨fun h c hc q => q (h c hc), fun h c hc => Classical.byContradiction (fun q => h c hc q)⟩
theorem eqW_n {tx : Nat → Int32} {w p e : Nat} (h : lnW w ≠ e - p) : eqW tx w p e = 0 := if_neg (fun q => h q.1)
theorem m_word {tx : Nat → Int32} {p e : Nat} (hpe : p ≤ e) (he : e ≤ 200) (hb : ∀ c, c < e - p → ∃ b, b < 128 ∧ tx (p + c) = nI b) : f_X4_wordOf (vlL tx p (e - p)) (nI (e - p)) = some (nI ((wd tx p e + 1) % 7)) := by
  obtain ⟨k0, k1, k2, k3, k4, k5⟩ := wl_c
  have q : ∀ L, L < 10 → (nI (e - p) = nI L ↔ e - p = L) := fun L hL => nI_eq (by omega) (by omega)
  have q4 : nI (e - p) = (4 : Int32) ↔ e - p = 4 := q 4 (by omega)
  have q5 : nI (e - p) = (5 : Int32) ↔ e - p = 5 := q 5 (by omega)
  have q6 : nI (e - p) = (6 : Int32) ↔ e - p = 6 := q 6 (by omega)
  have m1 : ∀ w, w < 6 → lnW w = e - p → (vlL tx p (e - p) = wlL w (e - p) ↔ eqW tx w p e = 1) := by
    intro w hw hl
    have h := vl_ms (tx := tx) (p := p) hw (by rw [hl]; exact hb)
    rw [hl] at h
    rw [h]
    unfold eqW
    constructor
    · intro h
      rw [if_pos ⟨hl, h⟩]
    · intro h
      by_cases c : lnW w = e - p ∧ msW tx w p = 0
      · exact c.2
      · rw [if_neg c] at h
        exact absurd h (by decide)
  obtain ⟨V, eV⟩ : ∃ V, V = vlL tx p (e - p) := ⟨_, rfl⟩
  rw [← eV] at m1 ⊢
  have z01 : ∀ {w}, eqW tx w p e ≠ 1 → ¬ eqW tx w p e = 1 := fun h => h
  have l0 : lnW 0 = 4 := rfl
  have l1 : lnW 1 = 5 := rfl
  have l2 : lnW 2 = 4 := rfl
  have l3 : lnW 3 = 4 := rfl
  have l4 : lnW 4 = 6 := rfl
  have l5 : lnW 5 = 6 := rfl
  have no : ∀ {w}, lnW w ≠ e - p → ¬ eqW tx w p e = 1 := fun h q => by rw [eqW_n h] at q; exact absurd q (by decide)
  unfold f_X4_wordOf wd
  simp only [lgc]
  by_cases c4 : e - p = 4
  · have m0 := m1 0 (by omega) (by omega)
    have m2 := m1 2 (by omega) (by omega)
    have m3 := m1 3 (by omega) (by omega)
    rw [c4, k0] at m0
    rw [c4, k2] at m2
    rw [c4, k3] at m3
    rw [if_pos (q4.mpr c4)]
    by_cases d0 : eqW tx 0 p e = 1
    · rw [if_pos (m0.mpr d0), if_pos d0]
      rfl
    · rw [if_neg (fun h => d0 (m0.mp h)), if_neg d0, if_neg (no (by omega))]
      by_cases d2 : eqW tx 2 p e = 1
      · rw [if_pos (m2.mpr d2), if_pos d2]
        rfl
      · rw [if_neg (fun h => d2 (m2.mp h)), if_neg d2]
        by_cases d3 : eqW tx 3 p e = 1
        · rw [if_pos (m3.mpr d3), if_pos d3]
          rfl
        · rw [if_neg (fun h => d3 (m3.mp h)), if_neg d3, if_neg (no (by omega)), if_neg (no (by omega))]
          rfl
  · rw [if_neg (fun h => c4 (q4.mp h)), if_neg (no (w := 0) (by omega))]
    by_cases c5 : e - p = 5
    · have mm := m1 1 (by omega) (by omega)
      rw [c5, k1] at mm
      rw [if_pos (q5.mpr c5)]
      by_cases d1 : eqW tx 1 p e = 1
      · rw [if_pos (mm.mpr d1), if_pos d1]
        rfl
      · rw [if_neg (fun h => d1 (mm.mp h)), if_neg d1, if_neg (no (by omega)), if_neg (no (by omega)), if_neg (no (by omega)), if_neg (no (by omega))]
        rfl
    · rw [if_neg (fun h => c5 (q5.mp h)), if_neg (no (w := 1) (by omega)), if_neg (no (w := 2) (by omega)), if_neg (no (w := 3) (by omega))]
      by_cases c6 : e - p = 6
      · have m4 := m1 4 (by omega) (by omega)
        have m5 := m1 5 (by omega) (by omega)
        rw [c6, k4] at m4
        rw [c6, k5] at m5
        rw [if_pos (q6.mpr c6)]
        by_cases d4 : eqW tx 4 p e = 1
        · rw [if_pos (m4.mpr d4), if_pos d4]
          rfl
        · rw [if_neg (fun h => d4 (m4.mp h)), if_neg d4]
          by_cases d5 : eqW tx 5 p e = 1
          · rw [if_pos (m5.mpr d5), if_pos d5]
            rfl
          · rw [if_neg (fun h => d5 (m5.mp h)), if_neg d5]
            rfl
      · rw [if_neg (fun h => c6 (q6.mp h)), if_neg (no (w := 4) (by omega)), if_neg (no (w := 5) (by omega))]
        rfl
section Reads
variable {tl : Nat} {tx : Nat → Int32}
theorem m_letters (ht : tl ≤ 120) {m : Mem} (hT : DT_ tl tx m) (p : Nat) : ∀ d k fuel, p + k ≤ 200 → tl < p + k + d → d < fuel → l_X4_isCommand_7 61 fuel (vlL tx p k) (HH (m.sI 61 20 (nI (p + k)))) = some (vlL tx p (leE tl tx d (p + k) - p), HH (m.sI 61 20 (nI (leE tl tx d (p + k))))) := by
  intro d
  induction d with
  | zero =>
    intro k fuel hp hd hf
    obtain ⟨f, rfl⟩ : ∃ f, fuel = f + 1 := ⟨fuel - 1, by omega⟩
    have e0 := m_at_n ht (DT_20 hT (nI (p + k))) hp (by rw [sI_at, if_pos rfl]) (lo := 97) (hi := 122) (fun h => by have := h.1; omega)
    rw [l_X4_isCommand_7, e0, Option.bind_some, if_pos rfl]
    show _ = some (vlL tx p (p + k - p), _)
    rw [show p + k - p = k by omega]
    rfl
  | succ d ih =>
    intro k fuel hp hd hf
    obtain ⟨f, rfl⟩ : ∃ f, fuel = f + 1 := ⟨fuel - 1, by omega⟩
    have e20 : (m.sI 61 20 (nI (p + k))).I 61 20 = nI (p + k) := by rw [sI_at, if_pos rfl]
    by_cases c : p + k < tl ∧ (¬ tx (p + k) < 97 ∧ ¬ 122 < tx (p + k))
    · have e0 := m_at_y ht (DT_20 hT (nI (p + k))) hp e20 c
      have e65 : (m.sI 61 20 (nI (p + k))).I 65 (p + k) = tx (p + k) := by rw [sI_I, if_neg (by omega)]; exact hT.2 _ c.1
      have := ih (k + 1) f (by omega) (by omega) (by omega)
      rw [vlL_s, show p + (k + 1) = p + k + 1 by omega] at this
      rw [leE_s, if_pos c, ← this, l_X4_isCommand_7, e0, Option.bind_some, if_neg (by decide)]
      simp (disch := omega) only [o_0, g_0_0, g_0_1, g_0_2, g_0_3, g_0_4, p_0_4, g_0_5, g_0_6, g_0_7, g_0_8, g_0_9, g_0_10, g_0_11, o_1, g_1_0, p_1_0, g_1_1, p_1_1, g_1_2, p_1_2, g_1_3, g_1_4, g_1_5, g_1_6, g_1_7, g_1_8, g_1_9, r_2, w_2, r_3, w_3, r_4, w_4, r_5, w_5, r_6, w_6, r_7, w_7, r_8, w_8, o_9, g_9_0, p_9_0, g_9_1, p_9_1, g_9_2, p_9_2, g_9_3, g_9_4, g_9_5, g_9_6, g_9_7, g_9_8, g_9_9, r_10, w_10, r_11, w_11, r_12, w_12, r_13, w_13, r_14, w_14, r_15, w_15, r_16, w_16, o_17, g_17_0, g_17_1, p_17_1, g_17_2, g_17_3, g_17_4, p_17_4, r_18, w_18, r_19, w_19, r_20, w_20, r_22, w_22, r_23, w_23, r_24, w_24, r_25, w_25, r_26, w_26, r_27, w_27, r_28, w_28, o_29, g_29_0, p_29_0, g_29_1, p_29_1, g_29_2, p_29_2, g_29_3, g_29_4, g_29_5, g_29_6, g_29_7, g_29_8, g_29_9, r_30, w_30, r_31, w_31, r_32, w_32, r_33, w_33, r_34, w_34, r_35, w_35, r_36, w_36, o_37, g_37_0, p_37_0, g_37_1, p_37_1, g_37_2, p_37_2, g_37_3, g_37_4, g_37_5, g_37_6, g_37_7, g_37_8, g_37_9, r_38, w_38, r_39, w_39, r_40, w_40, r_41, w_41, r_42, w_42, r_43, w_43, r_44, w_44, o_45, g_45_0, p_45_0, g_45_1, p_45_1, g_45_2, p_45_2, g_45_3, g_45_4, g_45_5, g_45_6, g_45_7, g_45_8, g_45_9, r_46, w_46, r_47, w_47, r_48, w_48, r_49, w_49, r_50, w_50, r_51, w_51, r_52, w_52, o_53, g_53_0, p_53_0, g_53_1, p_53_1, g_53_2, p_53_2, g_53_3, g_53_4, g_53_5, g_53_6, g_53_7, g_53_8, g_53_9, r_54, w_54, r_55, w_55, r_56, w_56, r_57, w_57, r_58, w_58, r_59, w_59, r_60, w_60, o_61, g_61_0, g_61_1, g_61_2, g_61_3, p_61_3, g_61_4, g_61_5, p_61_5, g_61_6, p_61_6, g_61_7, g_61_8, g_61_9, p_61_9, g_61_10, g_61_11, p_61_11, g_61_12, p_61_12, g_61_13, g_61_14, g_61_15, g_61_16, g_61_17, g_61_18, g_61_19, g_61_20, p_61_20, g_61_21, p_61_21, g_61_22, g_61_23, p_61_23, r_62, w_62, r_63, w_63, r_64, w_64, r_65, w_65, r_66, w_66, r_67, w_67, r_68, w_68, r_69, w_69, r_70, w_70, r_71, w_71, r_72, w_72, r_73, w_73, r_74, w_74, r_75, w_75, r_76, w_76, r_77, w_77, Option.bind_some, e20, e65, add_1, sI_ov]
      rfl
    · have e0 := m_at_n ht (DT_20 hT (nI (p + k))) hp e20 (lo := 97) (hi := 122) c
      rw [l_X4_isCommand_7, e0, Option.bind_some, leE_s, if_neg c, if_pos rfl, show p + k - p = k by omega]
/-- only the place, the word and the names change -/
def gM (m m1 : Mem) : Prop := (∀ k, k ≠ 20 → k ≠ 21 → m1.I 61 k = m.I 61 k) ∧ Fr (fun a => a = 61 ∨ a = 76) m m1
theorem gM_tr {m m1 m2 : Mem} (h : gM m m1) (h2 : gM m1 m2) : gM m m2 := ⟨fun k a b => (h2.1 k a b).trans (h.1 k a b), Fr_tr h.2 h2.2⟩
theorem gM_20 (m : Mem) (x : Int32) : gM m (m.sI 61 20 x) := ⟨fun k a _ => by rw [sI_at, if_neg a], Fr_sI (Fr_rf _ m) (Or.inl rfl)⟩
theorem gM_21 (m : Mem) (x : Int32) : gM m (m.sI 61 21 x) := ⟨fun k _ b => by rw [sI_at, if_neg b], Fr_sI (Fr_rf _ m) (Or.inl rfl)⟩
theorem gM_76 (m : Mem) (k : Nat) (x : Int32) : gM m (m.sI 76 k x) := ⟨fun k _ _ => by rw [sI_I, if_neg (by omega)], Fr_sI (Fr_rf _ m) (Or.inr rfl)⟩
theorem gM_DT {m m1 : Mem} (h : gM m m1) (hT : DT_ tl tx m) : DT_ tl tx m1 := DT_f hT (h.1 5 (by omega) (by omega)) (h.2.1 65 (by omega)).1
theorem m_nm (ht : tl ≤ 120) : ∀ d k a (m : Mem) fuel, k + d = 3 → d < fuel → a ≤ tl → DT_ tl tx m → m.I 61 20 = nI a → ∃ m1, l_X4_areNames_11 61 fuel (nI k) (HH m) = some (if (nmE tl tx d a).1 = 1 then .inl (HH m1) else .inr (0, HH m1)) ∧ m1.I 61 20 = nI (nmE tl tx d a).2 ∧ m1.I 61 21 = m.I 61 21 ∧
    (∀ j, j < k → m1.I 76 j = m.I 76 j) ∧ ((nmE tl tx d a).1 = 1 → ∀ x, x < d → m1.I 76 (k + x) = tx (a + x) - 97) ∧ gM m m1 := by
  intro d
  induction d with
  | zero =>
    intro k a m fuel hk hf ha hT h20
    obtain ⟨f, rfl⟩ : ∃ f, fuel = f + 1 := ⟨fuel - 1, by omega⟩
    have e : k = 3 := by omega
    subst e
    refine ⟨m, ?_, h20, rfl, fun _ _ => rfl, fun _ x hx => absurd hx (Nat.not_lt_zero x), ⟨fun _ _ _ => rfl, Fr_rf _ m⟩⟩
    rw [l_X4_areNames_11, if_pos (show (3 : Int32) ≤ nI 3 by decide)]
    rfl
  | succ d ih =>
    intro k a m fuel hk hf ha hT h20
    obtain ⟨f, rfl⟩ : ∃ f, fuel = f + 1 := ⟨fuel - 1, by omega⟩
    have h3 : ¬ (3 : Int32) ≤ nI k := fun q => by rw [le3 (by omega)] at q; omega
    by_cases c : a < tl ∧ (¬ tx a < 97 ∧ ¬ 104 < tx a)
    · have e0 := m_at_y ht hT (show a ≤ 200 by omega) h20 c
      have e : nmE tl tx (d + 1) a = nmE tl tx d (a + 1) := by rw [nmE_s, if_pos c]
      obtain ⟨m0, em0⟩ : ∃ m0, m0 = (m.sI 76 k (tx a - 97)).sI 61 20 (nI (a + 1)) := ⟨_, rfl⟩
      have g0 : gM m m0 := by rw [em0]; exact gM_tr (gM_76 m k (tx a - 97)) (gM_20 _ _)
      obtain ⟨m1, e1, v20, v21, k1, v1, g1⟩ := ih (k + 1) (a + 1) m0 f (by omega) (by omega) (by omega) (gM_DT g0 hT) (by rw [em0, sI_at, if_pos rfl])
      rw [e]
      have q76 : ∀ j, m0.I 76 j = if j = k then tx a - 97 else m.I 76 j := fun j => by rw [em0, sI_of _ _ _ _ (by omega), sI_at]
      refine ⟨m1, ?_, v20, ?_, fun j hj => ?_, fun h x hx => ?_, gM_tr g0 g1⟩
      · have r65 : m.I 65 a = tx a := hT.2 a c.1
        have q20 : (m.sI 76 k (tx a - 97)).I 61 20 = nI a := h20
        rw [← e1, l_X4_areNames_11, if_neg h3, e0, Option.bind_some, if_neg (by decide)]
        simp (disch := omega) only [o_0, g_0_0, g_0_1, g_0_2, g_0_3, g_0_4, p_0_4, g_0_5, g_0_6, g_0_7, g_0_8, g_0_9, g_0_10, g_0_11, o_1, g_1_0, p_1_0, g_1_1, p_1_1, g_1_2, p_1_2, g_1_3, g_1_4, g_1_5, g_1_6, g_1_7, g_1_8, g_1_9, r_2, w_2, r_3, w_3, r_4, w_4, r_5, w_5, r_6, w_6, r_7, w_7, r_8, w_8, o_9, g_9_0, p_9_0, g_9_1, p_9_1, g_9_2, p_9_2, g_9_3, g_9_4, g_9_5, g_9_6, g_9_7, g_9_8, g_9_9, r_10, w_10, r_11, w_11, r_12, w_12, r_13, w_13, r_14, w_14, r_15, w_15, r_16, w_16, o_17, g_17_0, g_17_1, p_17_1, g_17_2, g_17_3, g_17_4, p_17_4, r_18, w_18, r_19, w_19, r_20, w_20, r_22, w_22, r_23, w_23, r_24, w_24, r_25, w_25, r_26, w_26, r_27, w_27, r_28, w_28, o_29, g_29_0, p_29_0, g_29_1, p_29_1, g_29_2, p_29_2, g_29_3, g_29_4, g_29_5, g_29_6, g_29_7, g_29_8, g_29_9, r_30, w_30, r_31, w_31, r_32, w_32, r_33, w_33, r_34, w_34, r_35, w_35, r_36, w_36, o_37, g_37_0, p_37_0, g_37_1, p_37_1, g_37_2, p_37_2, g_37_3, g_37_4, g_37_5, g_37_6, g_37_7, g_37_8, g_37_9, r_38, w_38, r_39, w_39, r_40, w_40, r_41, w_41, r_42, w_42, r_43, w_43, r_44, w_44, o_45, g_45_0, p_45_0, g_45_1, p_45_1, g_45_2, p_45_2, g_45_3, g_45_4, g_45_5, g_45_6, g_45_7, g_45_8, g_45_9, r_46, w_46, r_47, w_47, r_48, w_48, r_49, w_49, r_50, w_50, r_51, w_51, r_52, w_52, o_53, g_53_0, p_53_0, g_53_1, p_53_1, g_53_2, p_53_2, g_53_3, g_53_4, g_53_5, g_53_6, g_53_7, g_53_8, g_53_9, r_54, w_54, r_55, w_55, r_56, w_56, r_57, w_57, r_58, w_58, r_59, w_59, r_60, w_60, o_61, g_61_0, g_61_1, g_61_2, g_61_3, p_61_3, g_61_4, g_61_5, p_61_5, g_61_6, p_61_6, g_61_7, g_61_8, g_61_9, p_61_9, g_61_10, g_61_11, p_61_11, g_61_12, p_61_12, g_61_13, g_61_14, g_61_15, g_61_16, g_61_17, g_61_18, g_61_19, g_61_20, p_61_20, g_61_21, p_61_21, g_61_22, g_61_23, p_61_23, r_62, w_62, r_63, w_63, r_64, w_64, r_65, w_65, r_66, w_66, r_67, w_67, r_68, w_68, r_69, w_69, r_70, w_70, r_71, w_71, r_72, w_72, r_73, w_73, r_74, w_74, r_75, w_75, r_76, w_76, r_77, w_77, Option.bind_some, h20, r65, q20, add_1]
        rw [← em0]
      · rw [v21, em0, sI_at, if_neg (by omega), sI_I, if_neg (by omega)]
      · rw [k1 j (by omega), q76, if_neg (by omega)]
      · by_cases x0 : x = 0
        · subst x0
          rw [Nat.add_zero, Nat.add_zero, k1 _ (by omega), q76, if_pos rfl]
        · have := v1 h (x - 1) (by omega)
          rw [show k + 1 + (x - 1) = k + x by omega, show a + 1 + (x - 1) = a + x by omega] at this
          exact this
    · have e0 := m_at_n ht hT (show a ≤ 200 by omega) h20 (lo := 97) (hi := 104) c
      have e : nmE tl tx (d + 1) a = (0, a) := by rw [nmE_s, if_neg c]
      rw [e]
      refine ⟨m, ?_, h20, rfl, fun _ _ => rfl, fun h => no01 h, ⟨fun _ _ _ => rfl, Fr_rf _ m⟩⟩
      rw [l_X4_areNames_11, if_neg h3, e0, Option.bind_some, if_pos rfl, if_neg (fun h => no01 h)]
theorem m_names (ht : tl ≤ 120) {e : Nat} (he : e ≤ tl) {m : Mem} (hT : DT_ tl tx m) (h20 : m.I 61 20 = nI e) : ∃ m1, f_X4_areNames 61 (HH m) = some (nI (nmC tl tx e).1, HH m1) ∧ m1.I 61 20 = nI (nmC tl tx e).2 ∧ m1.I 61 21 = m.I 61 21 ∧
    ((nmC tl tx e).1 = 1 → ∀ x, x < 3 → m1.I 76 x = tx (sp tl tx e + x) - 97) ∧ gM m m1 := by
  have g1 : e ≤ sp tl tx e := (spE_b (tl := tl) (tx := tx) 121 e).1
  have g3 : sp tl tx e ≤ tl := (spE_b (tl := tl) (tx := tx) 121 e).2 he
  have es := m_skips ht hT (show e ≤ 120 by omega) h20
  unfold nmC
  by_cases ce : sp tl tx e = e
  · rw [if_pos ce]
    rw [if_pos ce, ce, sI_id h20] at es
    refine ⟨m, ?_, h20, rfl, fun h => no01 h, ⟨fun _ _ _ => rfl, Fr_rf _ m⟩⟩
    simp only [f_X4_areNames, o_61, Option.bind_some, es, bind2, if_true]
    rfl
  · rw [if_neg ce]
    rw [if_neg ce] at es
    obtain ⟨m1, e1, v20, v21, k1, v1, g⟩ := m_nm ht 3 0 (sp tl tx e) (m.sI 61 20 (nI (sp tl tx e))) FU (by omega) (FUx (by omega)) g3 (DT_20 hT _) (by rw [sI_at, if_pos rfl])
    refine ⟨m1, ?_, v20, by rw [v21, sI_at, if_neg (by omega)], fun h x hx => by have := v1 h x hx; rwa [Nat.zero_add] at this, gM_tr (gM_20 m _) g⟩
    simp only [f_X4_areNames, o_61, Option.bind_some, es, bind2, if_neg (show ¬ (1 : Int32) = 0 by decide)]
    rw [show l_X4_areNames_11 61 FU 0 (HH (m.sI 61 20 (nI (sp tl tx e)))) = _ from e1]
    rcases (nmE_b (tl := tl) (tx := tx) 3 (sp tl tx e)).2.2 with h | h
    · rw [if_neg (by omega), h]
      rfl
    · rw [if_pos h, h]
      rfl
/-- the end of a command -/
theorem m_tail (ht : tl ≤ 120) {y : Nat} (hy : y ≤ tl) {m : Mem} (hT : DT_ tl tx m) (h20 : m.I 61 20 = nI y) : ∃ m1, (bind2 (f_X4_skips 61 (HH m)) fun v23 h24 => (f_X4_isAt 61 59 59 h24).bind fun v25 => if v25 = 0 then some ((0 : Int32), h24) else (fI 4 20 h24 61).bind fun v27 => (sF 4 20 (.int (v27 + 1)) h24 61).bind fun h28 => some (1, h28)) = some (nI (tlC tl tx y).1, HH m1) ∧ m1.I 61 20 = nI (tlC tl tx y).2 ∧ m1.I 61 21 = m.I 61 21 ∧ m1.I 76 = m.I 76 ∧ gM m m1 := by
  have g3 : sp tl tx y ≤ tl := (spE_b (tl := tl) (tx := tx) 121 y).2 hy
  rw [m_skips ht hT (show y ≤ 120 by omega) h20]
  simp only [bind2]
  have e20 : (m.sI 61 20 (nI (sp tl tx y))).I 61 20 = nI (sp tl tx y) := by rw [sI_at, if_pos rfl]
  unfold tlC
  by_cases c : sp tl tx y < tl ∧ tx (sp tl tx y) = 59
  · have e0 := m_at_y ht (DT_20 hT (nI (sp tl tx y))) (show sp tl tx y ≤ 200 by omega) e20 (lo := 59) (hi := 59) ⟨c.1, (is59 _).mpr c.2⟩
    rw [if_pos c, e0, Option.bind_some, if_neg (by decide), g_61_20, Option.bind_some, e20, add_1, p_61_20, Option.bind_some, sI_ov]
    exact ⟨_, rfl, by rw [sI_at, if_pos rfl], by rw [sI_at, if_neg (by omega)], by rw [sI_I, if_neg (by omega)], gM_20 m _⟩
  · have e0 := m_at_n ht (DT_20 hT (nI (sp tl tx y))) (show sp tl tx y ≤ 200 by omega) e20 (lo := 59) (hi := 59) (fun h => c ⟨h.1, (is59 _).mp h.2⟩)
    rw [if_neg c, e0, Option.bind_some, if_pos rfl]
    exact ⟨_, rfl, by rw [sI_at, if_pos rfl], by rw [sI_at, if_neg (by omega)], by rw [sI_I, if_neg (by omega)], gM_20 m _⟩
theorem m_cmd (ht : tl ≤ 120) (hb : ∀ k, k < tl → ∃ b, b < 128 ∧ tx k = nI b) {p : Nat} (hp : p ≤ tl) {m : Mem} (hT : DT_ tl tx m) (h20 : m.I 61 20 = nI p) : ∃ m1, f_X4_isCommand 61 (HH m) = some (nI (cmd tl tx p).1, HH m1) ∧ m1.I 61 20 = nI (cmd tl tx p).2 ∧
    ((cmd tl tx p).1 = 1 → m1.I 61 21 = nI (wd tx p (le_ tl tx p) + 1) ∧ (wd tx p (le_ tl tx p) < 4 → ∀ x, x < 3 → m1.I 76 x = tx (sp tl tx (le_ tl tx p) + x) - 97)) ∧ gM m m1 := by
  have g1 : p ≤ le_ tl tx p := (leE_b (tl := tl) (tx := tx) 121 p).1
  have g3 : le_ tl tx p ≤ tl := (leE_b (tl := tl) (tx := tx) 121 p).2 hp
  have hw6 := wd_le tx p (le_ tl tx p)
  obtain ⟨h1, h2, h3⟩ := hd_b (tl := tl) (tx := tx) p
  have h2 := h2 hp
  have el := m_letters ht hT p 121 0 FU (by omega) (by omega) (FUx (by omega))
  rw [Nat.add_zero, sI_id h20] at el
  have el : l_X4_isCommand_7 61 FU 0 (HH m) = some (vlL tx p (le_ tl tx p - p), HH (m.sI 61 20 (nI (le_ tl tx p)))) := el
  have ew := m_word (tx := tx) g1 (show le_ tl tx p ≤ 200 by omega) (fun c hc => hb (p + c) (by omega))
  obtain ⟨e, ee⟩ : ∃ e, e = le_ tl tx p := ⟨_, rfl⟩
  obtain ⟨w, hw⟩ : ∃ w, w = wd tx p (le_ tl tx p) := ⟨_, rfl⟩
  rw [← hw] at ew hw6 ⊢
  rw [← ee] at el ew g1 g3 ⊢
  have e20 : (m.sI 61 20 (nI e)).I 61 20 = nI e := by rw [sI_at, if_pos rfl]
  have es : nI e - nI p = nI (e - p) := pk_sub g1
  obtain ⟨m0, em0⟩ : ∃ m0, m0 = (m.sI 61 20 (nI e)).sI 61 21 (nI ((w + 1) % 7)) := ⟨_, rfl⟩
  have g0 : gM m m0 := by rw [em0]; exact gM_tr (gM_20 m _) (gM_21 _ _)
  have q21 : m0.I 61 21 = nI ((w + 1) % 7) := by rw [em0, sI_at, if_pos rfl]
  have q20 : m0.I 61 20 = nI e := by rw [em0, sI_at, if_neg (by omega)]; exact e20
  have head : f_X4_isCommand 61 (HH m) = (if nI ((w + 1) % 7) = 0 then (sF 4 20 (.int (nI p)) (HH m0) 61).bind fun h16 => some (0, h16) else bindR1 (if (5 : Int32) ≤ nI ((w + 1) % 7) then some (Sum.inl (HH m0)) else bind2 (f_X4_areNames 61 (HH m0)) fun v29 h30 => if v29 = 0 then some (.inr (0, h30)) else some (Sum.inl h30)) fun h19 => bind2 (f_X4_skips 61 h19) fun v23 h24 => (f_X4_isAt 61 59 59 h24).bind fun v25 => if v25 = 0 then some ((0 : Int32), h24) else (fI 4 20 h24 61).bind fun v27 => (sF 4 20 (.int (v27 + 1)) h24 61).bind fun h28 => some (1, h28)) := by
    unfold f_X4_isCommand
    rw [o_61, Option.bind_some, g_61_20, Option.bind_some, el]
    simp only [bind2]
    rw [g_61_20, Option.bind_some, e20, h20, es, ew, Option.bind_some, p_61_21, Option.bind_some, ← em0]
    simp only [g_61_21, Option.bind_some, q21]
  rw [head]
  by_cases c6 : w = 6
  · have ec : cmd tl tx p = (0, p) := by unfold cmd; rw [← hw, if_pos c6]
    rw [ec, c6, if_pos (show nI ((6 + 1) % 7) = 0 from rfl), p_61_20, Option.bind_some]
    exact ⟨_, rfl, by rw [sI_at, if_pos rfl], fun h => no01 h, gM_tr g0 (gM_20 _ _)⟩
  · have ec : cmd tl tx p = if (hd tl tx p).1 = 0 then (0, (hd tl tx p).2) else tlC tl tx (hd tl tx p).2 := by unfold cmd; rw [← hw, if_neg c6]
    have ew7 : (w + 1) % 7 = w + 1 := by omega
    rw [ew7] at q21 ⊢
    have w0 : ¬ nI (w + 1) = 0 := fun h => by
      have := (nI_eq (b := 0) (by omega) (by decide)).mp h
      omega
    rw [if_neg w0]
    by_cases c4 : w < 4
    · have eh : hd tl tx p = nmC tl tx e := by unfold hd; rw [← hw, if_pos c4, ee]
      have w5 : ¬ (5 : Int32) ≤ nI (w + 1) := fun h => by rw [le5 (by omega)] at h; omega
      obtain ⟨m1, e1, v20, v21, v76, gm⟩ := m_names ht g3 (gM_DT g0 hT) q20
      rw [← eh] at e1 v20 v76
      rw [if_neg w5, e1]
      simp only [bind2]
      rcases h3 with h0 | h0
      · rw [ec, h0, if_pos rfl, if_pos (show nI 0 = 0 from rfl)]
        exact ⟨m1, rfl, v20, fun h => no01 h, gM_tr g0 gm⟩
      · rw [ec, h0, if_neg (show ¬ nI 1 = 0 by decide), if_neg (show ¬ (1 : Nat) = 0 by decide)]
        obtain ⟨m2, e2, u20, u21, u76, gm2⟩ := m_tail ht h2 (gM_DT gm (gM_DT g0 hT)) v20
        refine ⟨m2, e2, u20, fun _ => ⟨by rw [u21, v21, q21], fun _ x hx => by rw [u76]; exact v76 h0 x hx⟩, gM_tr g0 (gM_tr gm gm2)⟩
    · have eh : hd tl tx p = (1, e) := by unfold hd; rw [← hw, if_neg c4, ee]
      have w5 : (5 : Int32) ≤ nI (w + 1) := by rw [le5 (by omega)]; omega
      rw [if_pos w5, ec, eh, if_neg (show ¬ ((1 : Nat), e).1 = 0 from fun h => absurd (show (1 : Nat) = 0 from h) (by decide))]
      obtain ⟨m2, e2, u20, u21, u76, gm2⟩ := m_tail ht g3 (gM_DT g0 hT) q20
      exact ⟨m2, e2, u20, fun _ => ⟨by rw [u21, q21], fun h => absurd h c4⟩, gM_tr g0 gm2⟩
end Reads
