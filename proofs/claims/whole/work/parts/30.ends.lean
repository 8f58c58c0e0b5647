/-! the reference's hold and ends -/
theorem le243 {k : Nat} (hk : k < 2 ^ 31) : ((243 : Int32) ≤ nI k) = (243 ≤ k) := propext (nI_leI (a := 243) (by decide) hk)
theorem le729 {k : Nat} (hk : k < 2 ^ 31) : ((729 : Int32) ≤ nI k) = (729 ≤ k) := propext (nI_leI (a := 729) (by decide) hk)
def cC (c a : Nat) : Prop := a = c
theorem sI_at (m : Mem) (a k j : Nat) (x : Int32) : (m.sI a k x).I a j = if j = k then x else m.I a j := by
  rw [sI_I, if_pos rfl, upd_g]
theorem sI_of (m : Mem) {a b : Nat} (k j : Nat) (x : Int32) (h : b ≠ a) : (m.sI a k x).I b j = m.I b j := by
  rw [sI_I, if_neg h]
theorem m_hold (m : Mem) : ∃ m1, f_X4_hold 61 (HH m) = some (HH m1) ∧ (∀ k, k < 243 → m1.I 64 k = m.I 62 k) ∧ Fr (cC 64) m m1 := by
  have key : ∃ b, l_X4_hold_2 61 FU (nI 0) (HH m) = some b ∧ ∃ m1, b = HH m1 ∧ (∀ k, k < 243 → m1.I 64 k = m.I 62 k) ∧ Fr (cC 64) m m1 := by
    refine loopR (fun fuel (a : Int32 × Hp) => l_X4_hold_2 61 fuel a.1 a.2) (fun k a => ∃ m1, a = (nI k, HH m1) ∧ (∀ j, j < k → m1.I 64 j = m.I 62 j) ∧ Fr (cC 64) m m1) _ 243 ?_ ?_ 243 0 (nI 0, HH m) FU (by omega) (FUx (by omega)) ⟨m, rfl, fun j hj => absurd hj (Nat.not_lt_zero j), Fr_rf _ m⟩
    · rintro k a fuel hk ⟨m1, rfl, h, f⟩
      refine Or.inl ⟨(nI (k + 1), HH (m1.sI 64 k (m1.I 62 k))), ?_, _, rfl, ?_, Fr_sI f rfl⟩
      · simp (disch := omega) only [l_X4_hold_2, le243, if_neg (show ¬ 243 ≤ k by omega), o_0, g_0_0, g_0_1, g_0_2, g_0_3, g_0_4, p_0_4, g_0_5, g_0_6, g_0_7, g_0_8, g_0_9, g_0_10, g_0_11, o_1, g_1_0, p_1_0, g_1_1, p_1_1, g_1_2, p_1_2, g_1_3, g_1_4, g_1_5, g_1_6, g_1_7, g_1_8, g_1_9, r_2, w_2, r_3, w_3, r_4, w_4, r_5, w_5, r_6, w_6, r_7, w_7, r_8, w_8, o_9, g_9_0, p_9_0, g_9_1, p_9_1, g_9_2, p_9_2, g_9_3, g_9_4, g_9_5, g_9_6, g_9_7, g_9_8, g_9_9, r_10, w_10, r_11, w_11, r_12, w_12, r_13, w_13, r_14, w_14, r_15, w_15, r_16, w_16, o_17, g_17_0, g_17_1, p_17_1, g_17_2, g_17_3, g_17_4, p_17_4, r_18, w_18, r_19, w_19, r_20, w_20, r_22, w_22, r_23, w_23, r_24, w_24, r_25, w_25, r_26, w_26, r_27, w_27, r_28, w_28, o_29, g_29_0, p_29_0, g_29_1, p_29_1, g_29_2, p_29_2, g_29_3, g_29_4, g_29_5, g_29_6, g_29_7, g_29_8, g_29_9, r_30, w_30, r_31, w_31, r_32, w_32, r_33, w_33, r_34, w_34, r_35, w_35, r_36, w_36, o_37, g_37_0, p_37_0, g_37_1, p_37_1, g_37_2, p_37_2, g_37_3, g_37_4, g_37_5, g_37_6, g_37_7, g_37_8, g_37_9, r_38, w_38, r_39, w_39, r_40, w_40, r_41, w_41, r_42, w_42, r_43, w_43, r_44, w_44, o_45, g_45_0, p_45_0, g_45_1, p_45_1, g_45_2, p_45_2, g_45_3, g_45_4, g_45_5, g_45_6, g_45_7, g_45_8, g_45_9, r_46, w_46, r_47, w_47, r_48, w_48, r_49, w_49, r_50, w_50, r_51, w_51, r_52, w_52, o_53, g_53_0, p_53_0, g_53_1, p_53_1, g_53_2, p_53_2, g_53_3, g_53_4, g_53_5, g_53_6, g_53_7, g_53_8, g_53_9, r_54, w_54, r_55, w_55, r_56, w_56, r_57, w_57, r_58, w_58, r_59, w_59, r_60, w_60, o_61, g_61_0, g_61_1, g_61_2, g_61_3, p_61_3, g_61_4, g_61_5, p_61_5, g_61_6, p_61_6, g_61_7, g_61_8, g_61_9, p_61_9, g_61_10, g_61_11, p_61_11, g_61_12, p_61_12, g_61_13, g_61_14, g_61_15, g_61_16, g_61_17, g_61_18, g_61_19, g_61_20, p_61_20, g_61_21, p_61_21, g_61_22, g_61_23, p_61_23, r_62, w_62, r_63, w_63, r_64, w_64, r_65, w_65, r_66, w_66, r_67, w_67, r_68, w_68, r_69, w_69, r_70, w_70, r_71, w_71, r_72, w_72, r_73, w_73, r_74, w_74, r_75, w_75, r_76, w_76, r_77, w_77, Option.bind_some, add_1]
      · intro j hj
        rw [sI_at]
        by_cases c : j = k
        · rw [if_pos c, c, (f.1 62 (by unfold cC; omega)).1]
        · rw [if_neg c]
          exact h j (by omega)
    · rintro a fuel ⟨m1, rfl, h, f⟩
      refine ⟨_, ?_, m1, rfl, h, f⟩
      simp (disch := omega) only [l_X4_hold_2, le243, if_pos (Nat.le_refl 243)]
  obtain ⟨b, e, m1, rfl, h, f⟩ := key
  refine ⟨m1, ?_, h, f⟩
  simp only [f_X4_hold, o_61, Option.bind_some]
  rw [show l_X4_hold_2 61 FU 0 (HH m) = _ from e]
  rfl
theorem m_shift (m : Mem) : ∃ m1, l_X4_ends_10 61 FU (nI 0) (HH m) = some (HH m1) ∧ (∀ k, k < 729 → m1.I 63 k = m.I 63 (k + 243)) ∧ Fr (cC 63) m m1 := by
  have key : ∃ b, l_X4_ends_10 61 FU (nI 0) (HH m) = some b ∧ ∃ m1, b = HH m1 ∧ (∀ k, k < 729 → m1.I 63 k = m.I 63 (k + 243)) ∧ Fr (cC 63) m m1 := by
    refine loopR (fun fuel (a : Int32 × Hp) => l_X4_ends_10 61 fuel a.1 a.2) (fun k a => ∃ m1, a = (nI k, HH m1) ∧ (∀ j, m1.I 63 j = if j < k then m.I 63 (j + 243) else m.I 63 j) ∧ Fr (cC 63) m m1) _ 729 ?_ ?_ 729 0 (nI 0, HH m) FU (by omega) (FUx (by omega)) ⟨m, rfl, fun j => (if_neg (Nat.not_lt_zero j)).symm, Fr_rf _ m⟩
    · rintro k a fuel hk ⟨m1, rfl, h, f⟩
      refine Or.inl ⟨(nI (k + 1), HH (m1.sI 63 k (m1.I 63 (k + 243)))), ?_, _, rfl, ?_, Fr_sI f rfl⟩
      · simp (disch := omega) only [l_X4_ends_10, le729, if_neg (show ¬ 729 ≤ k by omega), show (243 : Int32) = nI 243 from rfl, nI_add, o_0, g_0_0, g_0_1, g_0_2, g_0_3, g_0_4, p_0_4, g_0_5, g_0_6, g_0_7, g_0_8, g_0_9, g_0_10, g_0_11, o_1, g_1_0, p_1_0, g_1_1, p_1_1, g_1_2, p_1_2, g_1_3, g_1_4, g_1_5, g_1_6, g_1_7, g_1_8, g_1_9, r_2, w_2, r_3, w_3, r_4, w_4, r_5, w_5, r_6, w_6, r_7, w_7, r_8, w_8, o_9, g_9_0, p_9_0, g_9_1, p_9_1, g_9_2, p_9_2, g_9_3, g_9_4, g_9_5, g_9_6, g_9_7, g_9_8, g_9_9, r_10, w_10, r_11, w_11, r_12, w_12, r_13, w_13, r_14, w_14, r_15, w_15, r_16, w_16, o_17, g_17_0, g_17_1, p_17_1, g_17_2, g_17_3, g_17_4, p_17_4, r_18, w_18, r_19, w_19, r_20, w_20, r_22, w_22, r_23, w_23, r_24, w_24, r_25, w_25, r_26, w_26, r_27, w_27, r_28, w_28, o_29, g_29_0, p_29_0, g_29_1, p_29_1, g_29_2, p_29_2, g_29_3, g_29_4, g_29_5, g_29_6, g_29_7, g_29_8, g_29_9, r_30, w_30, r_31, w_31, r_32, w_32, r_33, w_33, r_34, w_34, r_35, w_35, r_36, w_36, o_37, g_37_0, p_37_0, g_37_1, p_37_1, g_37_2, p_37_2, g_37_3, g_37_4, g_37_5, g_37_6, g_37_7, g_37_8, g_37_9, r_38, w_38, r_39, w_39, r_40, w_40, r_41, w_41, r_42, w_42, r_43, w_43, r_44, w_44, o_45, g_45_0, p_45_0, g_45_1, p_45_1, g_45_2, p_45_2, g_45_3, g_45_4, g_45_5, g_45_6, g_45_7, g_45_8, g_45_9, r_46, w_46, r_47, w_47, r_48, w_48, r_49, w_49, r_50, w_50, r_51, w_51, r_52, w_52, o_53, g_53_0, p_53_0, g_53_1, p_53_1, g_53_2, p_53_2, g_53_3, g_53_4, g_53_5, g_53_6, g_53_7, g_53_8, g_53_9, r_54, w_54, r_55, w_55, r_56, w_56, r_57, w_57, r_58, w_58, r_59, w_59, r_60, w_60, o_61, g_61_0, g_61_1, g_61_2, g_61_3, p_61_3, g_61_4, g_61_5, p_61_5, g_61_6, p_61_6, g_61_7, g_61_8, g_61_9, p_61_9, g_61_10, g_61_11, p_61_11, g_61_12, p_61_12, g_61_13, g_61_14, g_61_15, g_61_16, g_61_17, g_61_18, g_61_19, g_61_20, p_61_20, g_61_21, p_61_21, g_61_22, g_61_23, p_61_23, r_62, w_62, r_63, w_63, r_64, w_64, r_65, w_65, r_66, w_66, r_67, w_67, r_68, w_68, r_69, w_69, r_70, w_70, r_71, w_71, r_72, w_72, r_73, w_73, r_74, w_74, r_75, w_75, r_76, w_76, r_77, w_77, Option.bind_some, add_1]
      · intro j
        rw [sI_at, h, h]
        by_cases c : j = k
        · rw [if_pos c, if_neg (by omega), if_pos (by omega), c]
        · rw [if_neg c]
          by_cases d : j < k
          · rw [if_pos d, if_pos (by omega)]
          · rw [if_neg d, if_neg (by omega)]
    · rintro a fuel ⟨m1, rfl, h, f⟩
      refine ⟨_, ?_, m1, rfl, fun k hk => by rw [h, if_pos hk], f⟩
      simp (disch := omega) only [l_X4_ends_10, le729, if_pos (Nat.le_refl 729)]
  obtain ⟨b, e, m1, rfl, h, f⟩ := key
  exact ⟨m1, e, h, f⟩
theorem m_store (m : Mem) {q : Nat} (hq : q ≤ 3) (h3 : m.I 61 3 = nI q) : ∃ m1, l_X4_ends_51 61 FU (nI 0) (HH m) = some (HH m1) ∧ (∀ k, m1.I 63 k = if 243 * q ≤ k ∧ k < 243 * q + 243 then m.I 64 (k - 243 * q) else m.I 63 k) ∧ Fr (cC 63) m m1 := by
  have key : ∃ b, l_X4_ends_51 61 FU (nI 0) (HH m) = some b ∧ ∃ m1, b = HH m1 ∧ (∀ k, m1.I 63 k = if 243 * q ≤ k ∧ k < 243 * q + 243 then m.I 64 (k - 243 * q) else m.I 63 k) ∧ Fr (cC 63) m m1 := by
    refine loopR (fun fuel (a : Int32 × Hp) => l_X4_ends_51 61 fuel a.1 a.2) (fun k a => ∃ m1, a = (nI k, HH m1) ∧ (∀ j, m1.I 63 j = if 243 * q ≤ j ∧ j < 243 * q + k then m.I 64 (j - 243 * q) else m.I 63 j) ∧ Fr (cC 63) m m1) _ 243 ?_ ?_ 243 0 (nI 0, HH m) FU (by omega) (FUx (by omega)) ⟨m, rfl, fun j => (if_neg (by omega)).symm, Fr_rf _ m⟩
    · rintro k a fuel hk ⟨m1, rfl, h, f⟩
      have e3 : m1.I 61 3 = nI q := by rw [(f.1 61 (by unfold cC; omega)).1, h3]
      refine Or.inl ⟨(nI (k + 1), HH (m1.sI 63 (243 * q + k) (m1.I 64 k))), ?_, _, rfl, ?_, Fr_sI f rfl⟩
      · simp (disch := omega) only [l_X4_ends_51, leN, if_neg (show ¬ 243 ≤ k by omega), show (243 : Int32) = nI 243 from rfl, nI_add, pk_mul, e3, o_0, g_0_0, g_0_1, g_0_2, g_0_3, g_0_4, p_0_4, g_0_5, g_0_6, g_0_7, g_0_8, g_0_9, g_0_10, g_0_11, o_1, g_1_0, p_1_0, g_1_1, p_1_1, g_1_2, p_1_2, g_1_3, g_1_4, g_1_5, g_1_6, g_1_7, g_1_8, g_1_9, r_2, w_2, r_3, w_3, r_4, w_4, r_5, w_5, r_6, w_6, r_7, w_7, r_8, w_8, o_9, g_9_0, p_9_0, g_9_1, p_9_1, g_9_2, p_9_2, g_9_3, g_9_4, g_9_5, g_9_6, g_9_7, g_9_8, g_9_9, r_10, w_10, r_11, w_11, r_12, w_12, r_13, w_13, r_14, w_14, r_15, w_15, r_16, w_16, o_17, g_17_0, g_17_1, p_17_1, g_17_2, g_17_3, g_17_4, p_17_4, r_18, w_18, r_19, w_19, r_20, w_20, r_22, w_22, r_23, w_23, r_24, w_24, r_25, w_25, r_26, w_26, r_27, w_27, r_28, w_28, o_29, g_29_0, p_29_0, g_29_1, p_29_1, g_29_2, p_29_2, g_29_3, g_29_4, g_29_5, g_29_6, g_29_7, g_29_8, g_29_9, r_30, w_30, r_31, w_31, r_32, w_32, r_33, w_33, r_34, w_34, r_35, w_35, r_36, w_36, o_37, g_37_0, p_37_0, g_37_1, p_37_1, g_37_2, p_37_2, g_37_3, g_37_4, g_37_5, g_37_6, g_37_7, g_37_8, g_37_9, r_38, w_38, r_39, w_39, r_40, w_40, r_41, w_41, r_42, w_42, r_43, w_43, r_44, w_44, o_45, g_45_0, p_45_0, g_45_1, p_45_1, g_45_2, p_45_2, g_45_3, g_45_4, g_45_5, g_45_6, g_45_7, g_45_8, g_45_9, r_46, w_46, r_47, w_47, r_48, w_48, r_49, w_49, r_50, w_50, r_51, w_51, r_52, w_52, o_53, g_53_0, p_53_0, g_53_1, p_53_1, g_53_2, p_53_2, g_53_3, g_53_4, g_53_5, g_53_6, g_53_7, g_53_8, g_53_9, r_54, w_54, r_55, w_55, r_56, w_56, r_57, w_57, r_58, w_58, r_59, w_59, r_60, w_60, o_61, g_61_0, g_61_1, g_61_2, g_61_3, p_61_3, g_61_4, g_61_5, p_61_5, g_61_6, p_61_6, g_61_7, g_61_8, g_61_9, p_61_9, g_61_10, g_61_11, p_61_11, g_61_12, p_61_12, g_61_13, g_61_14, g_61_15, g_61_16, g_61_17, g_61_18, g_61_19, g_61_20, p_61_20, g_61_21, p_61_21, g_61_22, g_61_23, p_61_23, r_62, w_62, r_63, w_63, r_64, w_64, r_65, w_65, r_66, w_66, r_67, w_67, r_68, w_68, r_69, w_69, r_70, w_70, r_71, w_71, r_72, w_72, r_73, w_73, r_74, w_74, r_75, w_75, r_76, w_76, r_77, w_77, Option.bind_some, add_1]
      · intro j
        rw [sI_at, h, (f.1 64 (by unfold cC; omega)).1]
        by_cases c : j = 243 * q + k
        · rw [if_pos c, if_pos (by omega), c]
          congr 1
          omega
        · rw [if_neg c]
          by_cases d : 243 * q ≤ j ∧ j < 243 * q + k
          · rw [if_pos d, if_pos (by omega)]
          · rw [if_neg d, if_neg (by omega)]
    · rintro a fuel ⟨m1, rfl, h, f⟩
      refine ⟨_, ?_, m1, rfl, h, f⟩
      simp (disch := omega) only [l_X4_ends_51, le243, if_pos (Nat.le_refl 243)]
  obtain ⟨b, e, m1, rfl, h, f⟩ := key
  exact ⟨m1, e, h, f⟩
