/-! completions -/
theorem le10 {k : Nat} (hk : k < 2 ^ 31) : ((10 : Int32) ≤ nI k) = (10 ≤ k) := propext (nI_leI (a := 10) (by decide) hk)
theorem many_mono (s : Nat → Int32) (kd : Int32) (t : Nat) : ∀ d, many s kd t ≤ many s kd (t + d) := by
  intro d
  induction d with
  | zero => exact Nat.le_refl _
  | succ d ih =>
    show many s kd t ≤ many s kd (t + d + 1)
    rw [many_s]
    split <;> omega
theorem c_list {n : Nat} (hn : n38 n) {m : Mem} (hL : LC n m) {s : Nat → Int32} {M : Nat → Int64} (hs : RS 9 m s M) (h10 : many s 0 (nT n) ≤ 10) : ∃ m1, l_X3_completions_45 0 FU 0 0 (HH m) = some (nI (many s 0 (nT n)), HH m1) ∧ (∀ k, k < many s 0 (nT n) → m1.I 23 k = nI ((opn s (nT n)).2 k)) ∧ Fr (cC 23) m m1 := by
  have hT := nT_le hn
  have key : ∃ b, l_X3_completions_45 0 FU (nI 0) (nI 0) (HH m) = some b ∧ ∃ m1, b = (nI (many s 0 (nT n)), HH m1) ∧ (∀ k, k < many s 0 (nT n) → m1.I 23 k = nI ((opn s (nT n)).2 k)) ∧ Fr (cC 23) m m1 := by
    refine loopR (fun fuel (a : Int32 × Int32 × Hp) => l_X3_completions_45 0 fuel a.1 a.2.1 a.2.2) (fun t a => ∃ m1, a = (nI (many s 0 t), nI t, HH m1) ∧ (∀ k, k < many s 0 t → m1.I 23 k = nI ((opn s t).2 k)) ∧ Fr (cC 23) m m1) _ (nT n) ?_ ?_ (nT n) 0 (nI 0, nI 0, HH m) FU (by omega) (FUx (by omega)) ⟨m, rfl, fun k hk => absurd hk (Nat.not_lt_zero k), Fr_rf _ m⟩
    · rintro t a fuel ht ⟨m1, rfl, hv, hf⟩
      have hL1 : LC n m1 := LC_of hL (fun a _ hb => hf.1 a (by unfold cC; omega))
      have e11 : m1.I 11 t = s (3 + 4 * t + 1) := by
        rw [(hf.1 11 (by unfold cC; omega)).1]
        exact (hs.2.2.2.1 t (by omega)).2.1
      have hmm : many s 0 t ≤ t := cntN_le _ _
      have mono : many s 0 t ≤ many s 0 (nT n) := by
        have := many_mono s 0 t (nT n - t)
        rwa [show t + (nT n - t) = nT n by omega] at this
      by_cases c10 : 10 ≤ many s 0 t
      · refine Or.inr ⟨_, ?_, m1, rfl, ?_, hf⟩
        · simp (disch := omega) only [l_X3_completions_45, o_0, g_0_0, g_0_1, g_0_2, g_0_3, g_0_4, g_0_5, g_0_6, g_0_7, g_0_8, g_0_9, g_0_10, g_0_11, o_1, g_1_0, g_1_1, g_1_2, g_1_3, g_1_4, g_1_5, g_1_6, g_1_7, g_1_8, g_1_9, r_2, r_3, r_4, r_5, r_6, r_7, r_8, o_9, g_9_0, g_9_1, g_9_2, g_9_3, g_9_4, g_9_5, g_9_6, g_9_7, g_9_8, g_9_9, r_10, r_11, r_12, r_13, r_14, r_15, r_16, o_17, g_17_0, g_17_1, g_17_2, g_17_3, g_17_4, r_18, r_19, r_20, r_22, r_23, r_24, r_25, r_26, r_27, r_28, o_29, g_29_0, g_29_1, g_29_2, g_29_3, g_29_4, g_29_5, g_29_6, g_29_7, g_29_8, g_29_9, r_30, r_31, r_32, r_33, r_34, r_35, r_36, o_37, g_37_0, g_37_1, g_37_2, g_37_3, g_37_4, g_37_5, g_37_6, g_37_7, g_37_8, g_37_9, r_38, r_39, r_40, r_41, r_42, r_43, r_44, o_45, g_45_0, g_45_1, g_45_2, g_45_3, g_45_4, g_45_5, g_45_6, g_45_7, g_45_8, g_45_9, r_46, r_47, r_48, r_49, r_50, r_51, r_52, o_53, g_53_0, g_53_1, g_53_2, g_53_3, g_53_4, g_53_5, g_53_6, g_53_7, g_53_8, g_53_9, r_54, r_55, r_56, r_57, r_58, r_59, r_60, o_61, g_61_0, g_61_1, g_61_2, g_61_3, g_61_4, g_61_5, g_61_6, g_61_7, g_61_8, g_61_9, g_61_10, g_61_11, g_61_12, g_61_13, g_61_14, g_61_15, g_61_16, g_61_17, g_61_18, g_61_19, g_61_20, g_61_21, g_61_22, g_61_23, r_62, r_63, r_64, r_65, r_66, r_67, r_68, r_69, r_70, r_71, r_72, r_73, r_74, r_75, r_76, r_77, Option.bind_some, leN, hL1.2.1, if_neg (show ¬ nT n ≤ t by omega), le10, if_pos c10]
          rw [show many s 0 (nT n) = many s 0 t by omega]
        · intro k hk
          have := opn_up s t (nT n - t)
          rw [show t + (nT n - t) = nT n by omega, opn_n] at this
          rw [this.2 k (by omega)]
          exact hv k (by omega)
      · by_cases c : s (3 + 4 * t + 1) = 0
        · refine Or.inl ⟨(nI (many s 0 (t + 1)), nI (t + 1), HH (m1.sI 23 (many s 0 t) (nI t))), ?_, _, rfl, ?_, Fr_sI hf rfl⟩
          · simp (disch := omega) only [l_X3_completions_45, o_0, g_0_0, g_0_1, g_0_2, g_0_3, g_0_4, p_0_4, g_0_5, g_0_6, g_0_7, g_0_8, g_0_9, g_0_10, g_0_11, o_1, g_1_0, p_1_0, g_1_1, p_1_1, g_1_2, p_1_2, g_1_3, g_1_4, g_1_5, g_1_6, g_1_7, g_1_8, g_1_9, r_2, w_2, r_3, w_3, r_4, w_4, r_5, w_5, r_6, w_6, r_7, w_7, r_8, w_8, o_9, g_9_0, p_9_0, g_9_1, p_9_1, g_9_2, p_9_2, g_9_3, g_9_4, g_9_5, g_9_6, g_9_7, g_9_8, g_9_9, r_10, w_10, r_11, w_11, r_12, w_12, r_13, w_13, r_14, w_14, r_15, w_15, r_16, w_16, o_17, g_17_0, g_17_1, p_17_1, g_17_2, g_17_3, g_17_4, p_17_4, r_18, w_18, r_19, w_19, r_20, w_20, r_22, w_22, r_23, w_23, r_24, w_24, r_25, w_25, r_26, w_26, r_27, w_27, r_28, w_28, o_29, g_29_0, p_29_0, g_29_1, p_29_1, g_29_2, p_29_2, g_29_3, g_29_4, g_29_5, g_29_6, g_29_7, g_29_8, g_29_9, r_30, w_30, r_31, w_31, r_32, w_32, r_33, w_33, r_34, w_34, r_35, w_35, r_36, w_36, o_37, g_37_0, p_37_0, g_37_1, p_37_1, g_37_2, p_37_2, g_37_3, g_37_4, g_37_5, g_37_6, g_37_7, g_37_8, g_37_9, r_38, w_38, r_39, w_39, r_40, w_40, r_41, w_41, r_42, w_42, r_43, w_43, r_44, w_44, o_45, g_45_0, p_45_0, g_45_1, p_45_1, g_45_2, p_45_2, g_45_3, g_45_4, g_45_5, g_45_6, g_45_7, g_45_8, g_45_9, r_46, w_46, r_47, w_47, r_48, w_48, r_49, w_49, r_50, w_50, r_51, w_51, r_52, w_52, o_53, g_53_0, p_53_0, g_53_1, p_53_1, g_53_2, p_53_2, g_53_3, g_53_4, g_53_5, g_53_6, g_53_7, g_53_8, g_53_9, r_54, w_54, r_55, w_55, r_56, w_56, r_57, w_57, r_58, w_58, r_59, w_59, r_60, w_60, o_61, g_61_0, g_61_1, g_61_2, g_61_3, p_61_3, g_61_4, g_61_5, p_61_5, g_61_6, p_61_6, g_61_7, g_61_8, g_61_9, p_61_9, g_61_10, g_61_11, p_61_11, g_61_12, p_61_12, g_61_13, g_61_14, g_61_15, g_61_16, g_61_17, g_61_18, g_61_19, g_61_20, p_61_20, g_61_21, p_61_21, g_61_22, g_61_23, p_61_23, r_62, w_62, r_63, w_63, r_64, w_64, r_65, w_65, r_66, w_66, r_67, w_67, r_68, w_68, r_69, w_69, r_70, w_70, r_71, w_71, r_72, w_72, r_73, w_73, r_74, w_74, r_75, w_75, r_76, w_76, r_77, w_77, Option.bind_some, leN, hL1.2.1, if_neg (show ¬ nT n ≤ t by omega), le10, if_neg c10, e11, if_pos c, bind2, add1]
            rw [many_s, if_pos c]
          · intro k hk
            rw [many_s, if_pos c] at hk
            rw [sI_at, opn_s, if_pos c, opn_n]
            show _ = nI (if k = many s 0 t then t else (opn s t).2 k)
            by_cases d : k = many s 0 t
            · rw [if_pos d, if_pos d]
            · rw [if_neg d, if_neg d]
              exact hv k (by omega)
        · refine Or.inl ⟨(nI (many s 0 (t + 1)), nI (t + 1), HH m1), ?_, m1, rfl, ?_, hf⟩
          · simp (disch := omega) only [l_X3_completions_45, o_0, g_0_0, g_0_1, g_0_2, g_0_3, g_0_4, g_0_5, g_0_6, g_0_7, g_0_8, g_0_9, g_0_10, g_0_11, o_1, g_1_0, g_1_1, g_1_2, g_1_3, g_1_4, g_1_5, g_1_6, g_1_7, g_1_8, g_1_9, r_2, r_3, r_4, r_5, r_6, r_7, r_8, o_9, g_9_0, g_9_1, g_9_2, g_9_3, g_9_4, g_9_5, g_9_6, g_9_7, g_9_8, g_9_9, r_10, r_11, r_12, r_13, r_14, r_15, r_16, o_17, g_17_0, g_17_1, g_17_2, g_17_3, g_17_4, r_18, r_19, r_20, r_22, r_23, r_24, r_25, r_26, r_27, r_28, o_29, g_29_0, g_29_1, g_29_2, g_29_3, g_29_4, g_29_5, g_29_6, g_29_7, g_29_8, g_29_9, r_30, r_31, r_32, r_33, r_34, r_35, r_36, o_37, g_37_0, g_37_1, g_37_2, g_37_3, g_37_4, g_37_5, g_37_6, g_37_7, g_37_8, g_37_9, r_38, r_39, r_40, r_41, r_42, r_43, r_44, o_45, g_45_0, g_45_1, g_45_2, g_45_3, g_45_4, g_45_5, g_45_6, g_45_7, g_45_8, g_45_9, r_46, r_47, r_48, r_49, r_50, r_51, r_52, o_53, g_53_0, g_53_1, g_53_2, g_53_3, g_53_4, g_53_5, g_53_6, g_53_7, g_53_8, g_53_9, r_54, r_55, r_56, r_57, r_58, r_59, r_60, o_61, g_61_0, g_61_1, g_61_2, g_61_3, g_61_4, g_61_5, g_61_6, g_61_7, g_61_8, g_61_9, g_61_10, g_61_11, g_61_12, g_61_13, g_61_14, g_61_15, g_61_16, g_61_17, g_61_18, g_61_19, g_61_20, g_61_21, g_61_22, g_61_23, r_62, r_63, r_64, r_65, r_66, r_67, r_68, r_69, r_70, r_71, r_72, r_73, r_74, r_75, r_76, r_77, Option.bind_some, leN, hL1.2.1, if_neg (show ¬ nT n ≤ t by omega), le10, if_neg c10, e11, if_neg c, bind2, add1]
            rw [many_s, if_neg c]
          · intro k hk
            rw [many_s, if_neg c] at hk
            rw [opn_s, if_neg c]
            exact hv k hk
    · rintro a fuel ⟨m1, rfl, hv, hf⟩
      have hL1 : LC n m1 := LC_of hL (fun a _ hb => hf.1 a (by unfold cC; omega))
      refine ⟨_, ?_, m1, rfl, hv, hf⟩
      simp (disch := omega) only [l_X3_completions_45, o_0, g_0_0, g_0_1, g_0_2, g_0_3, g_0_4, g_0_5, g_0_6, g_0_7, g_0_8, g_0_9, g_0_10, g_0_11, o_1, g_1_0, g_1_1, g_1_2, g_1_3, g_1_4, g_1_5, g_1_6, g_1_7, g_1_8, g_1_9, r_2, r_3, r_4, r_5, r_6, r_7, r_8, o_9, g_9_0, g_9_1, g_9_2, g_9_3, g_9_4, g_9_5, g_9_6, g_9_7, g_9_8, g_9_9, r_10, r_11, r_12, r_13, r_14, r_15, r_16, o_17, g_17_0, g_17_1, g_17_2, g_17_3, g_17_4, r_18, r_19, r_20, r_22, r_23, r_24, r_25, r_26, r_27, r_28, o_29, g_29_0, g_29_1, g_29_2, g_29_3, g_29_4, g_29_5, g_29_6, g_29_7, g_29_8, g_29_9, r_30, r_31, r_32, r_33, r_34, r_35, r_36, o_37, g_37_0, g_37_1, g_37_2, g_37_3, g_37_4, g_37_5, g_37_6, g_37_7, g_37_8, g_37_9, r_38, r_39, r_40, r_41, r_42, r_43, r_44, o_45, g_45_0, g_45_1, g_45_2, g_45_3, g_45_4, g_45_5, g_45_6, g_45_7, g_45_8, g_45_9, r_46, r_47, r_48, r_49, r_50, r_51, r_52, o_53, g_53_0, g_53_1, g_53_2, g_53_3, g_53_4, g_53_5, g_53_6, g_53_7, g_53_8, g_53_9, r_54, r_55, r_56, r_57, r_58, r_59, r_60, o_61, g_61_0, g_61_1, g_61_2, g_61_3, g_61_4, g_61_5, g_61_6, g_61_7, g_61_8, g_61_9, g_61_10, g_61_11, g_61_12, g_61_13, g_61_14, g_61_15, g_61_16, g_61_17, g_61_18, g_61_19, g_61_20, g_61_21, g_61_22, g_61_23, r_62, r_63, r_64, r_65, r_66, r_67, r_68, r_69, r_70, r_71, r_72, r_73, r_74, r_75, r_76, r_77, Option.bind_some, leN, hL1.2.1, if_pos (Nat.le_refl (nT n))]
  obtain ⟨b, e, m1, rfl, hv, hf⟩ := key
  exact ⟨m1, e, hv, hf⟩
/-! the reference -/
theorem m_list {n : Nat} (hn : n38 n) {m : Mem} (hL : LM n m) (h10 : many (m.I 62) 0 (nT n) ≤ 10) : ∃ m1, l_X4_completions_20 61 FU 0 0 (HH m) = some (nI (many (m.I 62) 0 (nT n)), HH m1) ∧ (∀ k, k < many (m.I 62) 0 (nT n) → m1.I 73 k = nI ((opn (m.I 62) (nT n)).2 k)) ∧ Fr (cC 73) m m1 := by
  have hT := nT_le hn
  have key : ∃ b, l_X4_completions_20 61 FU (nI 0) (nI 0) (HH m) = some b ∧ ∃ m1, b = (nI (many (m.I 62) 0 (nT n)), HH m1) ∧ (∀ k, k < many (m.I 62) 0 (nT n) → m1.I 73 k = nI ((opn (m.I 62) (nT n)).2 k)) ∧ Fr (cC 73) m m1 := by
    refine loopR (fun fuel (a : Int32 × Int32 × Hp) => l_X4_completions_20 61 fuel a.1 a.2.1 a.2.2) (fun t a => ∃ m1, a = (nI (many (m.I 62) 0 t), nI t, HH m1) ∧ (∀ k, k < many (m.I 62) 0 t → m1.I 73 k = nI ((opn (m.I 62) t).2 k)) ∧ Fr (cC 73) m m1) _ (nT n) ?_ ?_ (nT n) 0 (nI 0, nI 0, HH m) FU (by omega) (FUx (by omega)) ⟨m, rfl, fun k hk => absurd hk (Nat.not_lt_zero k), Fr_rf _ m⟩
    · rintro t a fuel ht ⟨m1, rfl, hv, hf⟩
      have e9 : m1.I 61 9 = nI (nT n) := by rw [(hf.1 61 (by unfold cC; omega)).1]; exact hL.1
      have e62 : m1.I 62 = m.I 62 := (hf.1 62 (by unfold cC; omega)).1
      have mono : many (m.I 62) 0 (t + 1) ≤ many (m.I 62) 0 (nT n) := by
        have := many_mono (m.I 62) 0 (t + 1) (nT n - (t + 1))
        rwa [show t + 1 + (nT n - (t + 1)) = nT n by omega] at this
      by_cases c : m.I 62 (3 + 4 * t + 1) = 0
      · have m1e : many (m.I 62) 0 (t + 1) = many (m.I 62) 0 t + 1 := by rw [many_s, if_pos c]
        refine Or.inl ⟨(nI (many (m.I 62) 0 (t + 1)), nI (t + 1), HH (m1.sI 73 (many (m.I 62) 0 t) (nI t))), ?_, _, rfl, ?_, Fr_sI hf rfl⟩
        · simp (disch := omega) only [l_X4_completions_20, e9, leN, if_neg (show ¬ nT n ≤ t by omega), o_0, g_0_0, g_0_1, g_0_2, g_0_3, g_0_4, p_0_4, g_0_5, g_0_6, g_0_7, g_0_8, g_0_9, g_0_10, g_0_11, o_1, g_1_0, p_1_0, g_1_1, p_1_1, g_1_2, p_1_2, g_1_3, g_1_4, g_1_5, g_1_6, g_1_7, g_1_8, g_1_9, r_2, w_2, r_3, w_3, r_4, w_4, r_5, w_5, r_6, w_6, r_7, w_7, r_8, w_8, o_9, g_9_0, p_9_0, g_9_1, p_9_1, g_9_2, p_9_2, g_9_3, g_9_4, g_9_5, g_9_6, g_9_7, g_9_8, g_9_9, r_10, w_10, r_11, w_11, r_12, w_12, r_13, w_13, r_14, w_14, r_15, w_15, r_16, w_16, o_17, g_17_0, g_17_1, p_17_1, g_17_2, g_17_3, g_17_4, p_17_4, r_18, w_18, r_19, w_19, r_20, w_20, r_22, w_22, r_23, w_23, r_24, w_24, r_25, w_25, r_26, w_26, r_27, w_27, r_28, w_28, o_29, g_29_0, p_29_0, g_29_1, p_29_1, g_29_2, p_29_2, g_29_3, g_29_4, g_29_5, g_29_6, g_29_7, g_29_8, g_29_9, r_30, w_30, r_31, w_31, r_32, w_32, r_33, w_33, r_34, w_34, r_35, w_35, r_36, w_36, o_37, g_37_0, p_37_0, g_37_1, p_37_1, g_37_2, p_37_2, g_37_3, g_37_4, g_37_5, g_37_6, g_37_7, g_37_8, g_37_9, r_38, w_38, r_39, w_39, r_40, w_40, r_41, w_41, r_42, w_42, r_43, w_43, r_44, w_44, o_45, g_45_0, p_45_0, g_45_1, p_45_1, g_45_2, p_45_2, g_45_3, g_45_4, g_45_5, g_45_6, g_45_7, g_45_8, g_45_9, r_46, w_46, r_47, w_47, r_48, w_48, r_49, w_49, r_50, w_50, r_51, w_51, r_52, w_52, o_53, g_53_0, p_53_0, g_53_1, p_53_1, g_53_2, p_53_2, g_53_3, g_53_4, g_53_5, g_53_6, g_53_7, g_53_8, g_53_9, r_54, w_54, r_55, w_55, r_56, w_56, r_57, w_57, r_58, w_58, r_59, w_59, r_60, w_60, o_61, g_61_0, g_61_1, g_61_2, g_61_3, p_61_3, g_61_4, g_61_5, p_61_5, g_61_6, p_61_6, g_61_7, g_61_8, g_61_9, p_61_9, g_61_10, g_61_11, p_61_11, g_61_12, p_61_12, g_61_13, g_61_14, g_61_15, g_61_16, g_61_17, g_61_18, g_61_19, g_61_20, p_61_20, g_61_21, p_61_21, g_61_22, g_61_23, p_61_23, r_62, w_62, r_63, w_63, r_64, w_64, r_65, w_65, r_66, w_66, r_67, w_67, r_68, w_68, r_69, w_69, r_70, w_70, r_71, w_71, r_72, w_72, r_73, w_73, r_74, w_74, r_75, w_75, r_76, w_76, r_77, w_77, Option.bind_some, get_1, e62, if_pos c, bind2, add_1, m1e]
        · intro k hk
          rw [many_s, if_pos c] at hk
          rw [sI_at, opn_s, if_pos c, opn_n]
          show _ = nI (if k = many (m.I 62) 0 t then t else (opn (m.I 62) t).2 k)
          by_cases d : k = many (m.I 62) 0 t
          · rw [if_pos d, if_pos d]
          · rw [if_neg d, if_neg d]
            exact hv k (by omega)
      · refine Or.inl ⟨(nI (many (m.I 62) 0 (t + 1)), nI (t + 1), HH m1), ?_, m1, rfl, ?_, hf⟩
        · simp (disch := omega) only [l_X4_completions_20, g_61_9, e9, leN, if_neg (show ¬ nT n ≤ t by omega), Option.bind_some, get_1, e62, if_neg c, bind2, add_1]
          rw [many_s, if_neg c]
        · intro k hk
          rw [many_s, if_neg c] at hk
          rw [opn_s, if_neg c]
          exact hv k hk
    · rintro a fuel ⟨m1, rfl, hv, hf⟩
      have e9 : m1.I 61 9 = nI (nT n) := by rw [(hf.1 61 (by unfold cC; omega)).1]; exact hL.1
      refine ⟨_, ?_, m1, rfl, hv, hf⟩
      simp (disch := omega) only [l_X4_completions_20, g_61_9, e9, leN, if_pos (Nat.le_refl (nT n)), Option.bind_some]
  obtain ⟨b, e, m1, rfl, hv, hf⟩ := key
  exact ⟨m1, e, hv, hf⟩
theorem bit_e : ∀ k, k < 10 → ∀ a, a < 32 → ∀ b, b < 32 → ((((nI (32 * a + b)) >>> (nI k &&& 31)) &&& (1 : Int32)) = 1 ↔ (32 * a + b) / 2 ^ k % 2 = 1) := by decide +kernel
theorem bit_x {x k : Nat} (hx : x < 1024) (hk : k < 10) : (((nI x >>> (nI k &&& 31)) &&& (1 : Int32)) = 1 ↔ x / 2 ^ k % 2 = 1) := by
  have := bit_e k hk (x / 32) (by omega) (x % 32) (by omega)
  rwa [show 32 * (x / 32) + x % 32 = x by omega] at this
theorem m_set {n : Nat} (hn : n38 n) {m : Mem} {f : Nat → Nat} {u : Nat} (hu : u ≤ 10) (hf : ∀ k, k < u → f k < nT n) (h73 : ∀ k, k < u → m.I 73 k = nI (f k)) {x : Nat} (hx : x < 1024) : ∀ d p (r : Nat → Int32) fuel, p + d = u → d < fuel → l_X4_completions_67 61 (nI u) (nI x) fuel (nI p) (HH (m.rI 62 r)) = some (HH (m.rI 62 (asn f d p (x / 2 ^ p) r))) := by
  have hT := nT_le hn
  intro d
  induction d with
  | zero =>
    intro p r fuel hd hfu
    obtain ⟨e, rfl⟩ : ∃ e, fuel = e + 1 := ⟨fuel - 1, by omega⟩
    have hp : nI u ≤ nI p := by rw [nI_leI (by omega) (by omega)]; omega
    rw [l_X4_completions_67, if_pos hp]
    rfl
  | succ d ih =>
    intro p r fuel hd hfu
    obtain ⟨e, rfl⟩ : ∃ e, fuel = e + 1 := ⟨fuel - 1, by omega⟩
    have hp : ¬ nI u ≤ nI p := fun q => by rw [nI_leI (by omega) (by omega)] at q; omega
    have ht := hf p (by omega)
    have e73 : ∀ g, (m.rI 62 g).I 73 p = nI (f p) := fun g => h73 p (by omega)
    have eb : (if ((nI x >>> (nI p &&& 31)) &&& (1 : Int32)) = 1 then some (1 : Int32) else some (-1)) = some (if x / 2 ^ p % 2 = 1 then 1 else -1) := by
      have := bit_x hx (show p < 10 by omega)
      by_cases c : x / 2 ^ p % 2 = 1
      · rw [if_pos (this.mpr c), if_pos c]
      · rw [if_neg (fun h => c (this.mp h)), if_neg c]
    simp (disch := omega) only [l_X4_completions_67, if_neg hp, o_0, g_0_0, g_0_1, g_0_2, g_0_3, g_0_4, g_0_5, g_0_6, g_0_7, g_0_8, g_0_9, g_0_10, g_0_11, o_1, g_1_0, g_1_1, g_1_2, g_1_3, g_1_4, g_1_5, g_1_6, g_1_7, g_1_8, g_1_9, r_2, r_3, r_4, r_5, r_6, r_7, r_8, o_9, g_9_0, g_9_1, g_9_2, g_9_3, g_9_4, g_9_5, g_9_6, g_9_7, g_9_8, g_9_9, r_10, r_11, r_12, r_13, r_14, r_15, r_16, o_17, g_17_0, g_17_1, g_17_2, g_17_3, g_17_4, r_18, r_19, r_20, r_22, r_23, r_24, r_25, r_26, r_27, r_28, o_29, g_29_0, g_29_1, g_29_2, g_29_3, g_29_4, g_29_5, g_29_6, g_29_7, g_29_8, g_29_9, r_30, r_31, r_32, r_33, r_34, r_35, r_36, o_37, g_37_0, g_37_1, g_37_2, g_37_3, g_37_4, g_37_5, g_37_6, g_37_7, g_37_8, g_37_9, r_38, r_39, r_40, r_41, r_42, r_43, r_44, o_45, g_45_0, g_45_1, g_45_2, g_45_3, g_45_4, g_45_5, g_45_6, g_45_7, g_45_8, g_45_9, r_46, r_47, r_48, r_49, r_50, r_51, r_52, o_53, g_53_0, g_53_1, g_53_2, g_53_3, g_53_4, g_53_5, g_53_6, g_53_7, g_53_8, g_53_9, r_54, r_55, r_56, r_57, r_58, r_59, r_60, o_61, g_61_0, g_61_1, g_61_2, g_61_3, g_61_4, g_61_5, g_61_6, g_61_7, g_61_8, g_61_9, g_61_10, g_61_11, g_61_12, g_61_13, g_61_14, g_61_15, g_61_16, g_61_17, g_61_18, g_61_19, g_61_20, g_61_21, g_61_22, g_61_23, r_62, r_63, r_64, r_65, r_66, r_67, r_68, r_69, r_70, r_71, r_72, r_73, r_74, r_75, r_76, r_77, Option.bind_some, e73, eb, put_0, rI_sI, add_1]
    rw [ih (p + 1) _ e (by omega) (by omega), asn_s, Nat.pow_succ, Nat.div_div_eq_div_mul]
theorem sh_e : ∀ u, u < 11 → ((1 : Int32) <<< (nI u &&& 31)) = nI (2 ^ u) := by decide +kernel
theorem pow_le {u : Nat} (h : u ≤ 10) : 2 ^ u ≤ 1024 := by
  have : ∀ u, u < 11 → 2 ^ u ≤ 1024 := by decide
  exact this u (by omega)
def cU (a : Nat) : Prop := a = 62 ∨ a = 69 ∨ a = 70
theorem m_all {n : Nat} (hn : n38 n) {m : Mem} (hL : LM n m) {s : Nat → Int32} (hs : m.I 62 = s) (hok : okS (nT n) s) {f : Nat → Nat} {u : Nat} (hu : u ≤ 10) (hf : ∀ k, k < u → f k < nT n) (h73 : ∀ k, k < u → m.I 73 k = nI (f k)) :
    ∃ m1, l_X4_completions_57 61 (nI u) FU 0 0 (HH m) = some (nI (Cn n f u 0 s), HH m1) ∧ Fr cU m m1 ∧ ∀ j, (∀ k, k < u → j ≠ 3 + 4 * f k) → m1.I 62 j = s j := by
  have h1024 := pow_le hu
  have key : ∃ b, l_X4_completions_57 61 (nI u) FU (nI 0) (nI 0) (HH m) = some b ∧ ∃ m1, b = (nI (cntN (fun x => viol n (asn f u 0 x s) (nR n) = 0) (2 ^ u)), HH m1) ∧ Fr cU m m1 ∧ ∀ j, (∀ k, k < u → j ≠ 3 + 4 * f k) → m1.I 62 j = s j := by
    refine loopR (fun fuel (a : Int32 × Int32 × Hp) => l_X4_completions_57 61 (nI u) fuel a.1 a.2.1 a.2.2) (fun x a => ∃ m1, a = (nI (cntN (fun x => viol n (asn f u 0 x s) (nR n) = 0) x), nI x, HH m1) ∧ Fr cU m m1 ∧ ∀ j, (∀ k, k < u → j ≠ 3 + 4 * f k) → m1.I 62 j = s j) _ (2 ^ u) ?_ ?_ (2 ^ u) 0 (nI 0, nI 0, HH m) FU (by omega) (FUx (by omega)) ⟨m, rfl, Fr_rf _ m, fun j _ => by rw [hs]⟩
    · rintro x a fuel hx ⟨m1, rfl, hfr, hj⟩
      have hL1 : LM n m1 := LM_f hL hfr (by unfold cU; omega) (by unfold cU; omega) (by unfold cU; omega) (by unfold cU; omega)
      have e73 : ∀ k, k < u → m1.I 73 k = nI (f k) := fun k hk => by rw [(hfr.1 73 (by unfold cU; omega)).1]; exact h73 k hk
      have es := m_set hn hu hf e73 (x := x) (by omega) u 0 (m1.I 62) FU (by omega) (FUx (by omega))
      have ecg : asn f u 0 (x / 2 ^ 0) (m1.I 62) = asn f u 0 x s := by
        rw [show x / 2 ^ 0 = x by rw [Nat.pow_zero, Nat.div_one]]
        exact asn_cg u 0 x _ _ (fun j h => hj j (fun k hk => h k (Nat.zero_le k) (by omega)))
      rw [ecg, rI_id] at es
      obtain ⟨R, eR⟩ : ∃ R, R = asn f u 0 x s := ⟨_, rfl⟩
      have ok2 : okS (nT n) R := by rw [eR]; exact asn_ok u 0 x s hok
      rw [← eR] at es
      obtain ⟨m2, e2, f2⟩ := m_viol hn (m := m1.rI 62 R) (LM_fr hL1 rfl rfl rfl rfl rfl) (by rw [rI_I]; exact ok2)
      rw [rI_I] at e2
      have f2u : Fr cU (m1.rI 62 R) m2 := Fr_w (d := cU) f2 (fun a h => by unfold cK at h; unfold cU; omega)
      have hv : viol n R (nR n) ≤ nR n := cntN_le _ _
      have hR := nR_le hn
      have z0 : nI (viol n R (nR n)) = 0 ↔ viol n R (nR n) = 0 := nI_eq (b := 0) (by omega) (by decide)
      refine Or.inl ⟨(nI (cntN (fun x => viol n (asn f u 0 x s) (nR n) = 0) (x + 1)), nI (x + 1), HH m2), ?_, m2, rfl, Fr_tr hfr (Fr_tr (Fr_rI (Fr_rf _ m1) (Or.inl rfl)) f2u), fun j h => ?_⟩
      · have hle : ¬ nI (2 ^ u) ≤ nI x := fun q => by rw [nI_leI (by omega) (by omega)] at q; omega
        have es : l_X4_completions_67 61 (nI u) (nI x) FU 0 (HH m1) = _ := es
        have ec : cntN (fun x => viol n (asn f u 0 x s) (nR n) = 0) (x + 1) = if viol n R (nR n) = 0 then cntN (fun x => viol n (asn f u 0 x s) (nR n) = 0) x + 1 else cntN (fun x => viol n (asn f u 0 x s) (nR n) = 0) x := by
          rw [eR]
          rfl
        rw [ec]
        simp only [l_X4_completions_57, sh_e u (by omega), if_neg hle, es, e2, Option.bind_some, bind2, add_1]
        by_cases c : viol n R (nR n) = 0
        · rw [if_pos (z0.mpr c), if_pos c, Option.bind_some, add_1]
        · rw [if_neg (fun q => c (z0.mp q)), if_neg c, Option.bind_some, add_0]
      · rw [(f2.1 62 (by unfold cK; omega)).1, rI_I, eR]
        exact asn_o u 0 x s (fun k _ h2 => h k (by omega))
    · rintro a fuel ⟨m1, rfl, hfr, hj⟩
      refine ⟨_, ?_, m1, rfl, hfr, hj⟩
      simp only [l_X4_completions_57, sh_e u (by omega), if_pos (Int32.le_refl (nI (2 ^ u)))]
  obtain ⟨b, e, m1, rfl, hfr, hj⟩ := key
  rw [← Cn_e] at e
  exact ⟨m1, e, hfr, hj⟩
theorem m_back {n : Nat} (hn : n38 n) {m : Mem} {f : Nat → Nat} {u : Nat} (hu : u ≤ 10) (hf : ∀ k, k < u → f k < nT n) (h73 : ∀ k, k < u → m.I 73 k = nI (f k)) {s : Nat → Int32} (hj : ∀ j, (∀ k, k < u → j ≠ 3 + 4 * f k) → m.I 62 j = s j) (hk : ∀ k, k < u → s (3 + 4 * f k) = -100) :
    l_X4_completions_130 61 (nI u) FU 0 (HH m) = some (HH (m.rI 62 s)) := by
  have hT := nT_le hn
  have key : ∃ b, l_X4_completions_130 61 (nI u) FU (nI 0) (HH m) = some b ∧ b = HH (m.rI 62 s) := by
    refine loopR (fun fuel (a : Int32 × Hp) => l_X4_completions_130 61 (nI u) fuel a.1 a.2) (fun p a => ∃ r, a = (nI p, HH (m.rI 62 r)) ∧ ∀ j, (∀ k, p ≤ k → k < u → j ≠ 3 + 4 * f k) → r j = s j) _ u ?_ ?_ u 0 (nI 0, HH m) FU (by omega) (FUx (by omega)) ⟨m.I 62, by rw [rI_id], fun j h => hj j (fun k hk => h k (Nat.zero_le k) hk)⟩
    · rintro p a fuel hp ⟨r, rfl, hr⟩
      have ht := hf p hp
      have e73 : ∀ g, (m.rI 62 g).I 73 p = nI (f p) := fun g => h73 p hp
      refine Or.inl ⟨(nI (p + 1), HH (m.rI 62 (upd r (3 + 4 * f p) (-100)))), ?_, _, rfl, fun j h => ?_⟩
      · simp (disch := omega) only [l_X4_completions_130, leN, if_neg (show ¬ u ≤ p by omega), o_0, g_0_0, g_0_1, g_0_2, g_0_3, g_0_4, g_0_5, g_0_6, g_0_7, g_0_8, g_0_9, g_0_10, g_0_11, o_1, g_1_0, g_1_1, g_1_2, g_1_3, g_1_4, g_1_5, g_1_6, g_1_7, g_1_8, g_1_9, r_2, r_3, r_4, r_5, r_6, r_7, r_8, o_9, g_9_0, g_9_1, g_9_2, g_9_3, g_9_4, g_9_5, g_9_6, g_9_7, g_9_8, g_9_9, r_10, r_11, r_12, r_13, r_14, r_15, r_16, o_17, g_17_0, g_17_1, g_17_2, g_17_3, g_17_4, r_18, r_19, r_20, r_22, r_23, r_24, r_25, r_26, r_27, r_28, o_29, g_29_0, g_29_1, g_29_2, g_29_3, g_29_4, g_29_5, g_29_6, g_29_7, g_29_8, g_29_9, r_30, r_31, r_32, r_33, r_34, r_35, r_36, o_37, g_37_0, g_37_1, g_37_2, g_37_3, g_37_4, g_37_5, g_37_6, g_37_7, g_37_8, g_37_9, r_38, r_39, r_40, r_41, r_42, r_43, r_44, o_45, g_45_0, g_45_1, g_45_2, g_45_3, g_45_4, g_45_5, g_45_6, g_45_7, g_45_8, g_45_9, r_46, r_47, r_48, r_49, r_50, r_51, r_52, o_53, g_53_0, g_53_1, g_53_2, g_53_3, g_53_4, g_53_5, g_53_6, g_53_7, g_53_8, g_53_9, r_54, r_55, r_56, r_57, r_58, r_59, r_60, o_61, g_61_0, g_61_1, g_61_2, g_61_3, g_61_4, g_61_5, g_61_6, g_61_7, g_61_8, g_61_9, g_61_10, g_61_11, g_61_12, g_61_13, g_61_14, g_61_15, g_61_16, g_61_17, g_61_18, g_61_19, g_61_20, g_61_21, g_61_22, g_61_23, r_62, r_63, r_64, r_65, r_66, r_67, r_68, r_69, r_70, r_71, r_72, r_73, r_74, r_75, r_76, r_77, Option.bind_some, e73, put_0, rI_sI, add_1]
      · rw [upd_g]
        by_cases c : j = 3 + 4 * f p
        · rw [if_pos c, c, hk p hp]
        · rw [if_neg c]
          refine hr j (fun k h1 h2 => ?_)
          by_cases ck : k = p
          · rw [ck]; exact c
          · exact h k (by omega) h2
    · rintro a fuel ⟨r, rfl, hr⟩
      have : r = s := by
        funext j
        exact hr j (fun k h1 h2 => by omega)
      subst this
      refine ⟨_, ?_, rfl⟩
      simp (disch := omega) only [l_X4_completions_130, leN, if_pos (Nat.le_refl u)]
  obtain ⟨b, e, rfl⟩ := key
  exact e
theorem k_completions {m : Mem} (hi : INV m) : okW (f_L_completions 0 77) (f_X4_completions 61) m := by
  obtain ⟨n, s, M, q, P, PM, tl, tx, hC, hD, b⟩ := INV_out hi
  have hn := b.1.1
  have hT := nT_le hn
  have hR := nR_le hn
  have hm : many s 0 (nT n) ≤ nT n := cntN_le _ _
  have hv : viol n s (nR n) ≤ nR n := cntN_le _ _
  have em : ∀ m3, DD n s q P tl tx m3 → f_X4_many 61 0 (HH m3) = some (nI (many s 0 (nT n))) := fun m3 h => by
    rw [m_many m3 0 hT h.1.1, h.2.1]
  by_cases c : many s 0 (nT n) ≤ 10
  · have cl : nI (many s 0 (nT n)) ≤ (10 : Int32) := by
      rw [Int32.le_iff_toInt_le, nI_toInt (by omega)]
      have : (10 : Int32).toInt = 10 := by decide
      omega
    have k0 : ∀ k, k < many s 0 (nT n) → s (3 + 4 * (opn s (nT n)).2 k + 1) = 0 ∧ (opn s (nT n)).2 k < nT n := fun k hk => opn_k s (nT n) k (by rw [opn_n]; exact hk)
    have kf : ∀ k, k < many s 0 (nT n) → (opn s (nT n)).2 k < nT n := fun k hk => (k0 k hk).2
    have ks : ∀ k, k < many s 0 (nT n) → s (3 + 4 * (opn s (nT n)).2 k) = -100 := fun k hk => (G_un (b.1.2.2.2 _ (by have := kf k hk; omega))).mpr (k0 k hk).1
    have ki : ∀ j k, j < k → k < many s 0 (nT n) → (opn s (nT n)).2 j < (opn s (nT n)).2 k := fun j k h1 h2 => opn_inj s (nT n) j k h1 (by rw [opn_n]; exact h2)
    have ref : ∀ m2, DD n s q P tl tx m2 → ∃ m3, f_X4_completions 61 (HH m2) = some (nI (Cn n (opn s (nT n)).2 (many s 0 (nT n)) 0 s), HH m3) ∧ DD n s q P tl tx m3 ∧ m3.I 61 6 = 0 ∧ upM m2 m3 := by
      intro m2 hD2
      obtain ⟨m3, e3, v3, f3⟩ := m_list hn hD2.1 (by rw [hD2.2.1]; exact c)
      rw [hD2.2.1] at e3 v3
      have D3 := DD_fr hD2 f3 (fun a h => by unfold cC at h; omega)
      obtain ⟨m4, e4, f4, j4⟩ := m_all hn D3.1 D3.2.1 (GG_ok b.1) c kf v3
      have e5 := m_back hn c kf (m := m4) (fun k hk => by rw [(f4.1 73 (by unfold cU; omega)).1]; exact v3 k hk) j4 ks
      have D5 : DD n s q P tl tx (m4.rI 62 s) := DD_w D3 (fun k _ => by rw [rI_n _ _ (by omega), (f4.1 61 (by unfold cU; omega)).1]) (fun a h1 h2 h3 => by rw [rI_n _ _ (by omega), (f4.1 a (by unfold cU; omega)).1]) (rI_I _ _ _)
      obtain ⟨d1, d2, d3⟩ := fl D5 0
      refine ⟨_, ?_, d1, d2, upM_tr (upM_fr f3 (fun a h => by unfold cC at h; omega)) (upM_tr (upM_fr f4 (fun a h => by unfold cU at h; omega)) (upM_tr (r62 _ _) d3))⟩
      simp only [f_X4_completions, o_61, Option.bind_some, em m2 hD2, if_pos cl, e3, bind2, e4, e5, m_tells]
    by_cases cv : viol n s (nR n) = 0
    · have clv : nI (viol n s (nR n)) ≤ 0 := by rw [leO (by omega)]; exact cv
      obtain ⟨m1, e1, v1, f1⟩ := c_list hn hC.1 hC.2.2.1 c
      have f1x : Fr cX m m1 := Fr_w (d := cX) f1 (fun a h => by unfold cC at h; unfold cX; omega)
      have L1 := LC_x hC.1 f1x
      have r1 : RS 9 m1 s M := RS_of hC.2.2.1 (fun a ha => f1.1 a (by unfold cS at ha; unfold cC; omega))
      obtain ⟨m2, e2, r2, f2⟩ := c_ways hn c kf ki (many s 0 (nT n)) 0 12 s m1 (by omega) (by omega) L1 r1 v1 cv (fun k _ hk => ks k hk)
      refine W_ok (m1 := m2) (w := (nI (Cn n (opn s (nT n)).2 (many s 0 (nT n)) 0 s)).toInt64) ?_ (CC_now (CC_scr hC b.2.1 f1x) b.2.1 f2 r2) (upC_tr (upC_fr f1 (fun a h => by unfold cC at h; omega)) (upC_9 f2)) hD b (fun m3 hD3 => ?_)
      · have e2 : f_X3_waysFrom 12 0 (nI (many s 0 (nT n))) 23 10 1 (HH m1) = _ := e2
        simp only [f_L_completions, f_X3_completions, o_0, g_0_0, g_0_1, g_0_2, g_0_3, g_0_4, g_0_5, g_0_6, g_0_7, g_0_8, g_0_9, g_0_10, g_0_11, o_1, g_1_0, g_1_1, g_1_2, g_1_3, g_1_4, g_1_5, g_1_6, g_1_7, g_1_8, g_1_9, r_2, r_3, r_4, r_5, r_6, r_7, r_8, o_9, g_9_0, g_9_1, g_9_2, g_9_3, g_9_4, g_9_5, g_9_6, g_9_7, g_9_8, g_9_9, r_10, r_11, r_12, r_13, r_14, r_15, r_16, o_17, g_17_0, g_17_1, g_17_2, g_17_3, g_17_4, r_18, r_19, r_20, r_22, r_23, r_24, r_25, r_26, r_27, r_28, o_29, g_29_0, g_29_1, g_29_2, g_29_3, g_29_4, g_29_5, g_29_6, g_29_7, g_29_8, g_29_9, r_30, r_31, r_32, r_33, r_34, r_35, r_36, o_37, g_37_0, g_37_1, g_37_2, g_37_3, g_37_4, g_37_5, g_37_6, g_37_7, g_37_8, g_37_9, r_38, r_39, r_40, r_41, r_42, r_43, r_44, o_45, g_45_0, g_45_1, g_45_2, g_45_3, g_45_4, g_45_5, g_45_6, g_45_7, g_45_8, g_45_9, r_46, r_47, r_48, r_49, r_50, r_51, r_52, o_53, g_53_0, g_53_1, g_53_2, g_53_3, g_53_4, g_53_5, g_53_6, g_53_7, g_53_8, g_53_9, r_54, r_55, r_56, r_57, r_58, r_59, r_60, o_61, g_61_0, g_61_1, g_61_2, g_61_3, g_61_4, g_61_5, g_61_6, g_61_7, g_61_8, g_61_9, g_61_10, g_61_11, g_61_12, g_61_13, g_61_14, g_61_15, g_61_16, g_61_17, g_61_18, g_61_19, g_61_20, g_61_21, g_61_22, g_61_23, r_62, r_63, r_64, r_65, r_66, r_67, r_68, r_69, r_70, r_71, r_72, r_73, r_74, r_75, r_76, r_77, Option.bind_some, hC.1.2.1, s9_count m hC.2.2.1 0 hT, if_pos cl, c_viol hn hC.1 hC.2.2.1, if_pos clv, e1, e2, bind2, bindTW, w77]
      · obtain ⟨m4, e4, D4, z4, u4⟩ := ref m3 hD3
        exact ⟨_, m4, e4, rfl, D4, z4, u4⟩
    · have clv : ¬ nI (viol n s (nR n)) ≤ 0 := fun h => by rw [leO (by omega)] at h; exact cv h
      refine W_ok (m1 := m) (w := (0 : Int32).toInt64) ?_ hC (upC_rf m) hD b (fun m3 hD3 => ?_)
      · simp only [f_L_completions, f_X3_completions, o_0, g_0_0, g_0_1, g_0_2, g_0_3, g_0_4, g_0_5, g_0_6, g_0_7, g_0_8, g_0_9, g_0_10, g_0_11, o_1, g_1_0, g_1_1, g_1_2, g_1_3, g_1_4, g_1_5, g_1_6, g_1_7, g_1_8, g_1_9, r_2, r_3, r_4, r_5, r_6, r_7, r_8, o_9, g_9_0, g_9_1, g_9_2, g_9_3, g_9_4, g_9_5, g_9_6, g_9_7, g_9_8, g_9_9, r_10, r_11, r_12, r_13, r_14, r_15, r_16, o_17, g_17_0, g_17_1, g_17_2, g_17_3, g_17_4, r_18, r_19, r_20, r_22, r_23, r_24, r_25, r_26, r_27, r_28, o_29, g_29_0, g_29_1, g_29_2, g_29_3, g_29_4, g_29_5, g_29_6, g_29_7, g_29_8, g_29_9, r_30, r_31, r_32, r_33, r_34, r_35, r_36, o_37, g_37_0, g_37_1, g_37_2, g_37_3, g_37_4, g_37_5, g_37_6, g_37_7, g_37_8, g_37_9, r_38, r_39, r_40, r_41, r_42, r_43, r_44, o_45, g_45_0, g_45_1, g_45_2, g_45_3, g_45_4, g_45_5, g_45_6, g_45_7, g_45_8, g_45_9, r_46, r_47, r_48, r_49, r_50, r_51, r_52, o_53, g_53_0, g_53_1, g_53_2, g_53_3, g_53_4, g_53_5, g_53_6, g_53_7, g_53_8, g_53_9, r_54, r_55, r_56, r_57, r_58, r_59, r_60, o_61, g_61_0, g_61_1, g_61_2, g_61_3, g_61_4, g_61_5, g_61_6, g_61_7, g_61_8, g_61_9, g_61_10, g_61_11, g_61_12, g_61_13, g_61_14, g_61_15, g_61_16, g_61_17, g_61_18, g_61_19, g_61_20, g_61_21, g_61_22, g_61_23, r_62, r_63, r_64, r_65, r_66, r_67, r_68, r_69, r_70, r_71, r_72, r_73, r_74, r_75, r_76, r_77, Option.bind_some, hC.1.2.1, s9_count m hC.2.2.1 0 hT, if_pos cl, c_viol hn hC.1 hC.2.2.1, if_neg clv, bindTW, w77]
      · obtain ⟨m4, e4, D4, z4, u4⟩ := ref m3 hD3
        rw [Cn_0 n _ _ 0 s cv (fun k _ hk => ks k (by omega)) (fun j k _ h2 h3 => ki j k h2 (by omega))] at e4
        exact ⟨_, m4, e4, rfl, D4, z4, u4⟩
  · have cl : ¬ nI (many s 0 (nT n)) ≤ (10 : Int32) := fun h => by
      rw [Int32.le_iff_toInt_le, nI_toInt (by omega)] at h
      have : (10 : Int32).toInt = 10 := by decide
      omega
    refine W_thr (k := 1) (by decide) ?_ hC b ⟨0, _, ?_, fl hD 1⟩
    · simp only [f_L_completions, f_X3_completions, o_0, g_0_0, g_0_1, g_0_2, g_0_3, g_0_4, g_0_5, g_0_6, g_0_7, g_0_8, g_0_9, g_0_10, g_0_11, o_1, g_1_0, g_1_1, g_1_2, g_1_3, g_1_4, g_1_5, g_1_6, g_1_7, g_1_8, g_1_9, r_2, r_3, r_4, r_5, r_6, r_7, r_8, o_9, g_9_0, g_9_1, g_9_2, g_9_3, g_9_4, g_9_5, g_9_6, g_9_7, g_9_8, g_9_9, r_10, r_11, r_12, r_13, r_14, r_15, r_16, o_17, g_17_0, g_17_1, g_17_2, g_17_3, g_17_4, r_18, r_19, r_20, r_22, r_23, r_24, r_25, r_26, r_27, r_28, o_29, g_29_0, g_29_1, g_29_2, g_29_3, g_29_4, g_29_5, g_29_6, g_29_7, g_29_8, g_29_9, r_30, r_31, r_32, r_33, r_34, r_35, r_36, o_37, g_37_0, g_37_1, g_37_2, g_37_3, g_37_4, g_37_5, g_37_6, g_37_7, g_37_8, g_37_9, r_38, r_39, r_40, r_41, r_42, r_43, r_44, o_45, g_45_0, g_45_1, g_45_2, g_45_3, g_45_4, g_45_5, g_45_6, g_45_7, g_45_8, g_45_9, r_46, r_47, r_48, r_49, r_50, r_51, r_52, o_53, g_53_0, g_53_1, g_53_2, g_53_3, g_53_4, g_53_5, g_53_6, g_53_7, g_53_8, g_53_9, r_54, r_55, r_56, r_57, r_58, r_59, r_60, o_61, g_61_0, g_61_1, g_61_2, g_61_3, g_61_4, g_61_5, g_61_6, g_61_7, g_61_8, g_61_9, g_61_10, g_61_11, g_61_12, g_61_13, g_61_14, g_61_15, g_61_16, g_61_17, g_61_18, g_61_19, g_61_20, g_61_21, g_61_22, g_61_23, r_62, r_63, r_64, r_65, r_66, r_67, r_68, r_69, r_70, r_71, r_72, r_73, r_74, r_75, r_76, r_77, Option.bind_some, hC.1.2.1, s9_count m hC.2.2.1 0 hT, if_neg cl, bindTW, if_true]
    · simp only [f_X4_completions, o_61, Option.bind_some, em m hD, if_neg cl, m_fails, bind2]
