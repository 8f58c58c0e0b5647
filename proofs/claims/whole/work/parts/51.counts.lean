/-! counts, triples, relations -/
def cmpl (n : Nat) (s : Nat → Int32) (k : Nat) : Nat := cntN (fun r => unk n r s 6 = 0) k
def viol (n : Nat) (s : Nat → Int32) (k : Nat) : Nat := cntN (fun r => vd n r s = -1) k
theorem cmpl_s (n : Nat) (s : Nat → Int32) (k : Nat) : cmpl n s (k + 1) = if unk n k s 6 = 0 then cmpl n s k + 1 else cmpl n s k := rfl
theorem viol_s (n : Nat) (s : Nat → Int32) (k : Nat) : viol n s (k + 1) = if vd n k s = -1 then viol n s k + 1 else viol n s k := rfl
theorem vd_3 (n r : Nat) (s : Nat → Int32) : (vd n r s = 1 ∧ unk n r s 6 = 0) ∨ (vd n r s = -1 ∧ unk n r s 6 = 0) ∨ (vd n r s = 0 ∧ unk n r s 6 ≠ 0) := by
  unfold vd
  by_cases c : unk n r s 6 = 0
  · rw [if_pos c]
    split
    · exact Or.inl ⟨rfl, c⟩
    · exact Or.inr (Or.inl ⟨rfl, c⟩)
  · rw [if_neg c]
    exact Or.inr (Or.inr ⟨rfl, c⟩)
theorem c_cmpl {n : Nat} (hn : n38 n) {m : Mem} (hL : LC n m) {s : Nat → Int32} {M : Nat → Int64} (hs : RS 9 m s M) : f_X3_countComplete 0 (HH m) = some (nI (cmpl n s (nR n))) := by
  have hR := nR_le hn
  have key : ∃ b, l_X3_countComplete_4 0 (HH m) FU (nI 0) (nI 0) = some b ∧ b = nI (cmpl n s (nR n)) := by
    refine loopR (fun fuel (a : Int32 × Int32) => l_X3_countComplete_4 0 (HH m) fuel a.1 a.2) (fun k a => a = (nI (cmpl n s k), nI k)) _ (nR n) ?_ ?_ (nR n) 0 (nI 0, nI 0) FU (by omega) (FUx (by omega)) rfl
    · rintro k a fuel hk rfl
      have hub : unk n k s 6 ≤ 6 := cntN_le _ 6
      have z0 : (nI (unk n k s 6) = 0) ↔ unk n k s 6 = 0 := nI_eq (b := 0) (by omega) (by decide)
      refine Or.inl ⟨(nI (cmpl n s (k + 1)), nI (k + 1)), ?_, rfl⟩
      simp (disch := omega) only [l_X3_countComplete_4, o_0, g_0_0, g_0_1, g_0_2, g_0_3, g_0_4, g_0_5, g_0_6, g_0_7, g_0_8, g_0_9, g_0_10, g_0_11, o_1, g_1_0, g_1_1, g_1_2, g_1_3, g_1_4, g_1_5, g_1_6, g_1_7, g_1_8, g_1_9, r_2, r_3, r_4, r_5, r_6, r_7, r_8, o_9, g_9_0, g_9_1, g_9_2, g_9_3, g_9_4, g_9_5, g_9_6, g_9_7, g_9_8, g_9_9, r_10, r_11, r_12, r_13, r_14, r_15, r_16, o_17, g_17_0, g_17_1, g_17_2, g_17_3, g_17_4, r_18, r_19, r_20, r_22, r_23, r_24, r_25, r_26, r_27, r_28, o_29, g_29_0, g_29_1, g_29_2, g_29_3, g_29_4, g_29_5, g_29_6, g_29_7, g_29_8, g_29_9, r_30, r_31, r_32, r_33, r_34, r_35, r_36, o_37, g_37_0, g_37_1, g_37_2, g_37_3, g_37_4, g_37_5, g_37_6, g_37_7, g_37_8, g_37_9, r_38, r_39, r_40, r_41, r_42, r_43, r_44, o_45, g_45_0, g_45_1, g_45_2, g_45_3, g_45_4, g_45_5, g_45_6, g_45_7, g_45_8, g_45_9, r_46, r_47, r_48, r_49, r_50, r_51, r_52, o_53, g_53_0, g_53_1, g_53_2, g_53_3, g_53_4, g_53_5, g_53_6, g_53_7, g_53_8, g_53_9, r_54, r_55, r_56, r_57, r_58, r_59, r_60, o_61, g_61_0, g_61_1, g_61_2, g_61_3, g_61_4, g_61_5, g_61_6, g_61_7, g_61_8, g_61_9, g_61_10, g_61_11, g_61_12, g_61_13, g_61_14, g_61_15, g_61_16, g_61_17, g_61_18, g_61_19, g_61_20, g_61_21, g_61_22, g_61_23, r_62, r_63, r_64, r_65, r_66, r_67, r_68, r_69, r_70, r_71, r_72, r_73, r_74, r_75, r_76, r_77, Option.bind_some, leN, hL.2.2.1, if_neg (show ¬ nR n ≤ k by omega), cl_unk hn hL hs hk, cmpl_s, add1]
      by_cases c : unk n k s 6 = 0
      · rw [if_pos (z0.mpr c), if_pos c, Option.bind_some]
      · rw [if_neg (fun q => c (z0.mp q)), if_neg c, Option.bind_some]
    · rintro a fuel rfl
      refine ⟨_, ?_, rfl⟩
      simp (disch := omega) only [l_X3_countComplete_4, o_0, g_0_0, g_0_1, g_0_2, g_0_3, g_0_4, g_0_5, g_0_6, g_0_7, g_0_8, g_0_9, g_0_10, g_0_11, o_1, g_1_0, g_1_1, g_1_2, g_1_3, g_1_4, g_1_5, g_1_6, g_1_7, g_1_8, g_1_9, r_2, r_3, r_4, r_5, r_6, r_7, r_8, o_9, g_9_0, g_9_1, g_9_2, g_9_3, g_9_4, g_9_5, g_9_6, g_9_7, g_9_8, g_9_9, r_10, r_11, r_12, r_13, r_14, r_15, r_16, o_17, g_17_0, g_17_1, g_17_2, g_17_3, g_17_4, r_18, r_19, r_20, r_22, r_23, r_24, r_25, r_26, r_27, r_28, o_29, g_29_0, g_29_1, g_29_2, g_29_3, g_29_4, g_29_5, g_29_6, g_29_7, g_29_8, g_29_9, r_30, r_31, r_32, r_33, r_34, r_35, r_36, o_37, g_37_0, g_37_1, g_37_2, g_37_3, g_37_4, g_37_5, g_37_6, g_37_7, g_37_8, g_37_9, r_38, r_39, r_40, r_41, r_42, r_43, r_44, o_45, g_45_0, g_45_1, g_45_2, g_45_3, g_45_4, g_45_5, g_45_6, g_45_7, g_45_8, g_45_9, r_46, r_47, r_48, r_49, r_50, r_51, r_52, o_53, g_53_0, g_53_1, g_53_2, g_53_3, g_53_4, g_53_5, g_53_6, g_53_7, g_53_8, g_53_9, r_54, r_55, r_56, r_57, r_58, r_59, r_60, o_61, g_61_0, g_61_1, g_61_2, g_61_3, g_61_4, g_61_5, g_61_6, g_61_7, g_61_8, g_61_9, g_61_10, g_61_11, g_61_12, g_61_13, g_61_14, g_61_15, g_61_16, g_61_17, g_61_18, g_61_19, g_61_20, g_61_21, g_61_22, g_61_23, r_62, r_63, r_64, r_65, r_66, r_67, r_68, r_69, r_70, r_71, r_72, r_73, r_74, r_75, r_76, r_77, Option.bind_some, leN, hL.2.2.1, if_pos (Nat.le_refl (nR n))]
  obtain ⟨b, e, rfl⟩ := key
  simp only [f_X3_countComplete, o_0, Option.bind_some]
  rw [show l_X3_countComplete_4 0 (HH m) FU 0 0 = _ from e, Option.bind_some]
theorem c_viol {n : Nat} (hn : n38 n) {m : Mem} (hL : LC n m) {s : Nat → Int32} {M : Nat → Int64} (hs : RS 9 m s M) : f_X3_countViolated 0 (HH m) = some (nI (viol n s (nR n))) := by
  have hR := nR_le hn
  have key : ∃ b, l_X3_countViolated_4 0 (HH m) FU (nI 0) (nI 0) = some b ∧ b = nI (viol n s (nR n)) := by
    refine loopR (fun fuel (a : Int32 × Int32) => l_X3_countViolated_4 0 (HH m) fuel a.1 a.2) (fun k a => a = (nI (viol n s k), nI k)) _ (nR n) ?_ ?_ (nR n) 0 (nI 0, nI 0) FU (by omega) (FUx (by omega)) rfl
    · rintro k a fuel hk rfl
      refine Or.inl ⟨(nI (viol n s (k + 1)), nI (k + 1)), ?_, rfl⟩
      simp (disch := omega) only [l_X3_countViolated_4, o_0, g_0_0, g_0_1, g_0_2, g_0_3, g_0_4, g_0_5, g_0_6, g_0_7, g_0_8, g_0_9, g_0_10, g_0_11, o_1, g_1_0, g_1_1, g_1_2, g_1_3, g_1_4, g_1_5, g_1_6, g_1_7, g_1_8, g_1_9, r_2, r_3, r_4, r_5, r_6, r_7, r_8, o_9, g_9_0, g_9_1, g_9_2, g_9_3, g_9_4, g_9_5, g_9_6, g_9_7, g_9_8, g_9_9, r_10, r_11, r_12, r_13, r_14, r_15, r_16, o_17, g_17_0, g_17_1, g_17_2, g_17_3, g_17_4, r_18, r_19, r_20, r_22, r_23, r_24, r_25, r_26, r_27, r_28, o_29, g_29_0, g_29_1, g_29_2, g_29_3, g_29_4, g_29_5, g_29_6, g_29_7, g_29_8, g_29_9, r_30, r_31, r_32, r_33, r_34, r_35, r_36, o_37, g_37_0, g_37_1, g_37_2, g_37_3, g_37_4, g_37_5, g_37_6, g_37_7, g_37_8, g_37_9, r_38, r_39, r_40, r_41, r_42, r_43, r_44, o_45, g_45_0, g_45_1, g_45_2, g_45_3, g_45_4, g_45_5, g_45_6, g_45_7, g_45_8, g_45_9, r_46, r_47, r_48, r_49, r_50, r_51, r_52, o_53, g_53_0, g_53_1, g_53_2, g_53_3, g_53_4, g_53_5, g_53_6, g_53_7, g_53_8, g_53_9, r_54, r_55, r_56, r_57, r_58, r_59, r_60, o_61, g_61_0, g_61_1, g_61_2, g_61_3, g_61_4, g_61_5, g_61_6, g_61_7, g_61_8, g_61_9, g_61_10, g_61_11, g_61_12, g_61_13, g_61_14, g_61_15, g_61_16, g_61_17, g_61_18, g_61_19, g_61_20, g_61_21, g_61_22, g_61_23, r_62, r_63, r_64, r_65, r_66, r_67, r_68, r_69, r_70, r_71, r_72, r_73, r_74, r_75, r_76, r_77, Option.bind_some, leN, hL.2.2.1, if_neg (show ¬ nR n ≤ k by omega), cl_vdv hn hL hs hk, viol_s, add1]
      rcases vd_3 n k s with ⟨e, _⟩ | ⟨e, _⟩ | ⟨e, _⟩ <;> rw [e]
      · rw [if_pos (by decide), if_neg (by decide), Option.bind_some]
      · rw [if_neg (by decide), if_pos rfl, Option.bind_some]
      · rw [if_pos (by decide), if_neg (by decide), Option.bind_some]
    · rintro a fuel rfl
      refine ⟨_, ?_, rfl⟩
      simp (disch := omega) only [l_X3_countViolated_4, o_0, g_0_0, g_0_1, g_0_2, g_0_3, g_0_4, g_0_5, g_0_6, g_0_7, g_0_8, g_0_9, g_0_10, g_0_11, o_1, g_1_0, g_1_1, g_1_2, g_1_3, g_1_4, g_1_5, g_1_6, g_1_7, g_1_8, g_1_9, r_2, r_3, r_4, r_5, r_6, r_7, r_8, o_9, g_9_0, g_9_1, g_9_2, g_9_3, g_9_4, g_9_5, g_9_6, g_9_7, g_9_8, g_9_9, r_10, r_11, r_12, r_13, r_14, r_15, r_16, o_17, g_17_0, g_17_1, g_17_2, g_17_3, g_17_4, r_18, r_19, r_20, r_22, r_23, r_24, r_25, r_26, r_27, r_28, o_29, g_29_0, g_29_1, g_29_2, g_29_3, g_29_4, g_29_5, g_29_6, g_29_7, g_29_8, g_29_9, r_30, r_31, r_32, r_33, r_34, r_35, r_36, o_37, g_37_0, g_37_1, g_37_2, g_37_3, g_37_4, g_37_5, g_37_6, g_37_7, g_37_8, g_37_9, r_38, r_39, r_40, r_41, r_42, r_43, r_44, o_45, g_45_0, g_45_1, g_45_2, g_45_3, g_45_4, g_45_5, g_45_6, g_45_7, g_45_8, g_45_9, r_46, r_47, r_48, r_49, r_50, r_51, r_52, o_53, g_53_0, g_53_1, g_53_2, g_53_3, g_53_4, g_53_5, g_53_6, g_53_7, g_53_8, g_53_9, r_54, r_55, r_56, r_57, r_58, r_59, r_60, o_61, g_61_0, g_61_1, g_61_2, g_61_3, g_61_4, g_61_5, g_61_6, g_61_7, g_61_8, g_61_9, g_61_10, g_61_11, g_61_12, g_61_13, g_61_14, g_61_15, g_61_16, g_61_17, g_61_18, g_61_19, g_61_20, g_61_21, g_61_22, g_61_23, r_62, r_63, r_64, r_65, r_66, r_67, r_68, r_69, r_70, r_71, r_72, r_73, r_74, r_75, r_76, r_77, Option.bind_some, leN, hL.2.2.1, if_pos (Nat.le_refl (nR n))]
  obtain ⟨b, e, rfl⟩ := key
  simp only [f_X3_countViolated, o_0, Option.bind_some]
  rw [show l_X3_countViolated_4 0 (HH m) FU 0 0 = _ from e, Option.bind_some]
theorem LM_K {n : Nat} {m m1 : Mem} (h : LM n m) (f : Fr cK m m1) : LM n m1 := LM_f h f (by unfold cK; omega) (by unfold cK; omega) (by unfold cK; omega) (by unfold cK; omega)
theorem m_cmpl {n : Nat} (hn : n38 n) {m : Mem} (hL : LM n m) (hok : okS (nT n) (m.I 62)) : ∃ m1, f_X4_stated 61 0 (HH m) = some (nI (cmpl n (m.I 62) (nR n)), HH m1) ∧ Fr cK m m1 := by
  have hR := nR_le hn
  have key : ∃ b, l_X4_stated_4 61 0 FU (nI 0) (nI 0) (HH m) = some b ∧ ∃ m1, b = (nI (cmpl n (m.I 62) (nR n)), HH m1) ∧ Fr cK m m1 := by
    refine loopR (fun fuel (a : Int32 × Int32 × Hp) => l_X4_stated_4 61 0 fuel a.1 a.2.1 a.2.2) (fun k a => ∃ m1, a = (nI (cmpl n (m.I 62) k), nI k, HH m1) ∧ Fr cK m m1) _ (nR n) ?_ ?_ (nR n) 0 (nI 0, nI 0, HH m) FU (by omega) (FUx (by omega)) ⟨m, rfl, Fr_rf _ m⟩
    · rintro k a fuel hk ⟨m1, rfl, hf⟩
      have hL1 := LM_K hL hf
      have e62 : m1.I 62 = m.I 62 := (hf.1 62 (by unfold cK; omega)).1
      obtain ⟨m2, e2, k2, f2⟩ := m_state hn hL1 (by rw [e62]; exact hok) hk
      rw [e62] at e2
      refine Or.inl ⟨(nI (cmpl n (m.I 62) (k + 1)), nI (k + 1), HH m2), ?_, m2, rfl, Fr_tr hf f2⟩
      simp (disch := omega) only [l_X4_stated_4, g_61_11, hL1.2.1, leN, if_neg (show ¬ nR n ≤ k by omega), Option.bind_some, e2, bind2, cmpl_s]
      rcases vd_3 n k (m.I 62) with ⟨e, u⟩ | ⟨e, u⟩ | ⟨e, u⟩ <;> rw [e]
      · rw [if_neg (by decide), if_pos rfl, if_pos trivial, if_pos u, Option.bind_some, add_1, add_1]
      · rw [if_pos rfl, if_pos u, Option.bind_some, add_1, add_1]
      · rw [if_neg (by decide), if_neg (by decide), if_neg u, Option.bind_some, add_0, add_1]
    · rintro a fuel ⟨m1, rfl, hf⟩
      have hL1 := LM_K hL hf
      refine ⟨_, ?_, m1, rfl, hf⟩
      simp (disch := omega) only [l_X4_stated_4, g_61_11, hL1.2.1, leN, if_pos (Nat.le_refl (nR n)), Option.bind_some]
  obtain ⟨b, e, m1, rfl, hf⟩ := key
  refine ⟨m1, ?_, hf⟩
  simp only [f_X4_stated, o_61, Option.bind_some]
  rw [show l_X4_stated_4 61 0 FU 0 0 (HH m) = _ from e]
  rfl
theorem m_viol {n : Nat} (hn : n38 n) {m : Mem} (hL : LM n m) (hok : okS (nT n) (m.I 62)) : ∃ m1, f_X4_stated 61 1 (HH m) = some (nI (viol n (m.I 62) (nR n)), HH m1) ∧ Fr cK m m1 := by
  have hR := nR_le hn
  have key : ∃ b, l_X4_stated_4 61 1 FU (nI 0) (nI 0) (HH m) = some b ∧ ∃ m1, b = (nI (viol n (m.I 62) (nR n)), HH m1) ∧ Fr cK m m1 := by
    refine loopR (fun fuel (a : Int32 × Int32 × Hp) => l_X4_stated_4 61 1 fuel a.1 a.2.1 a.2.2) (fun k a => ∃ m1, a = (nI (viol n (m.I 62) k), nI k, HH m1) ∧ Fr cK m m1) _ (nR n) ?_ ?_ (nR n) 0 (nI 0, nI 0, HH m) FU (by omega) (FUx (by omega)) ⟨m, rfl, Fr_rf _ m⟩
    · rintro k a fuel hk ⟨m1, rfl, hf⟩
      have hL1 := LM_K hL hf
      have e62 : m1.I 62 = m.I 62 := (hf.1 62 (by unfold cK; omega)).1
      obtain ⟨m2, e2, k2, f2⟩ := m_state hn hL1 (by rw [e62]; exact hok) hk
      rw [e62] at e2
      refine Or.inl ⟨(nI (viol n (m.I 62) (k + 1)), nI (k + 1), HH m2), ?_, m2, rfl, Fr_tr hf f2⟩
      simp (disch := omega) only [l_X4_stated_4, g_61_11, hL1.2.1, leN, if_neg (show ¬ nR n ≤ k by omega), Option.bind_some, e2, bind2, viol_s]
      rcases vd_3 n k (m.I 62) with ⟨e, u⟩ | ⟨e, u⟩ | ⟨e, u⟩ <;> rw [e]
      · rw [if_neg (by decide), if_pos rfl, if_neg (by decide), if_neg (by decide), Option.bind_some, add_0, add_1]
      · rw [if_pos rfl, if_pos rfl, Option.bind_some, add_1, add_1]
      · rw [if_neg (by decide), if_neg (by decide), if_neg (by decide), Option.bind_some, add_0, add_1]
    · rintro a fuel ⟨m1, rfl, hf⟩
      have hL1 := LM_K hL hf
      refine ⟨_, ?_, m1, rfl, hf⟩
      simp (disch := omega) only [l_X4_stated_4, g_61_11, hL1.2.1, leN, if_pos (Nat.le_refl (nR n)), Option.bind_some]
  obtain ⟨b, e, m1, rfl, hf⟩ := key
  refine ⟨m1, ?_, hf⟩
  simp only [f_X4_stated, o_61, Option.bind_some]
  rw [show l_X4_stated_4 61 1 FU 0 0 (HH m) = _ from e]
  rfl
/-! which ints are triples, or relations -/
theorem ix_or {N : Nat} (hN : N < 2 ^ 31) (x : Int32) : (∃ i, i < N ∧ x = nI i) ∨ (x < 0 ∨ (¬ x < 0 ∧ nI N ≤ x)) := by
  by_cases c : x < 0
  · exact Or.inr (Or.inl c)
  · by_cases d : nI N ≤ x
    · exact Or.inr (Or.inr ⟨c, d⟩)
    · obtain ⟨e1, e2⟩ := i32_nat c
      refine Or.inl ⟨x.toInt.toNat, ?_, e1⟩
      rw [Int32.le_iff_toInt_le, nI_toInt hN] at d
      omega
theorem ix_y {N i : Nat} (hN : N < 2 ^ 31) (hi : i < N) : f_X4_in (nI i) 0 (nI N - 1) = some 1 := by
  refine in_y (nI_pos (by omega)) ?_
  rw [show nI N - (1 : Int32) = nI (N - 1) from pk_sub (a := N) (b := 1) (by omega), Int32.lt_iff_toInt_lt, nI_toInt (by omega), nI_toInt (by omega)]
  omega
theorem ix_n {N : Nat} (hN : N < 2 ^ 31) {x : Int32} (h : x < 0 ∨ (¬ x < 0 ∧ nI N ≤ x)) : f_X4_in x 0 (nI N - 1) = some 0 := by
  refine in_n (h.imp id (fun h => ?_))
  obtain ⟨h0, h⟩ := h
  rw [Int32.le_iff_toInt_le, nI_toInt hN] at h
  by_cases c : N = 0
  · subst c
    rw [Int32.lt_iff_toInt_lt] at h0 ⊢
    have k : (nI 0 - (1 : Int32)).toInt = -1 := by decide
    have k0 : (0 : Int32).toInt = 0 := by decide
    omega
  · rw [show nI N - (1 : Int32) = nI (N - 1) from pk_sub (a := N) (b := 1) (by omega), Int32.lt_iff_toInt_lt, nI_toInt (by omega)]
    omega
theorem rt_y {n : Nat} (hn : n38 n) {m : Mem} (hL : LC n m) {t : Nat} (ht : t < nT n) : f_X3_requireTriple 0 (nI t) (HH m) = some (.inr ()) := by
  have hT := nT_le hn
  have h : nI t < nI (nT n) := by
    rw [Int32.lt_iff_toInt_lt, nI_toInt (by omega), nI_toInt (by omega)]
    omega
  simp only [f_X3_requireTriple, o_0, g_0_0, g_0_1, g_0_2, g_0_3, g_0_4, g_0_5, g_0_6, g_0_7, g_0_8, g_0_9, g_0_10, g_0_11, o_1, g_1_0, g_1_1, g_1_2, g_1_3, g_1_4, g_1_5, g_1_6, g_1_7, g_1_8, g_1_9, r_2, r_3, r_4, r_5, r_6, r_7, r_8, o_9, g_9_0, g_9_1, g_9_2, g_9_3, g_9_4, g_9_5, g_9_6, g_9_7, g_9_8, g_9_9, r_10, r_11, r_12, r_13, r_14, r_15, r_16, o_17, g_17_0, g_17_1, g_17_2, g_17_3, g_17_4, r_18, r_19, r_20, r_22, r_23, r_24, r_25, r_26, r_27, r_28, o_29, g_29_0, g_29_1, g_29_2, g_29_3, g_29_4, g_29_5, g_29_6, g_29_7, g_29_8, g_29_9, r_30, r_31, r_32, r_33, r_34, r_35, r_36, o_37, g_37_0, g_37_1, g_37_2, g_37_3, g_37_4, g_37_5, g_37_6, g_37_7, g_37_8, g_37_9, r_38, r_39, r_40, r_41, r_42, r_43, r_44, o_45, g_45_0, g_45_1, g_45_2, g_45_3, g_45_4, g_45_5, g_45_6, g_45_7, g_45_8, g_45_9, r_46, r_47, r_48, r_49, r_50, r_51, r_52, o_53, g_53_0, g_53_1, g_53_2, g_53_3, g_53_4, g_53_5, g_53_6, g_53_7, g_53_8, g_53_9, r_54, r_55, r_56, r_57, r_58, r_59, r_60, o_61, g_61_0, g_61_1, g_61_2, g_61_3, g_61_4, g_61_5, g_61_6, g_61_7, g_61_8, g_61_9, g_61_10, g_61_11, g_61_12, g_61_13, g_61_14, g_61_15, g_61_16, g_61_17, g_61_18, g_61_19, g_61_20, g_61_21, g_61_22, g_61_23, r_62, r_63, r_64, r_65, r_66, r_67, r_68, r_69, r_70, r_71, r_72, r_73, r_74, r_75, r_76, r_77, Option.bind_some, if_neg (nI_pos (show t < 2 ^ 31 by omega)), hL.2.1, if_pos h]
theorem rt_n {n : Nat} {m : Mem} (hL : LC n m) {x : Int32} (h : x < 0 ∨ (¬ x < 0 ∧ nI (nT n) ≤ x)) : f_X3_requireTriple 0 x (HH m) = some (.inl 1) := by
  simp only [f_X3_requireTriple, o_0, g_0_0, g_0_1, g_0_2, g_0_3, g_0_4, g_0_5, g_0_6, g_0_7, g_0_8, g_0_9, g_0_10, g_0_11, o_1, g_1_0, g_1_1, g_1_2, g_1_3, g_1_4, g_1_5, g_1_6, g_1_7, g_1_8, g_1_9, r_2, r_3, r_4, r_5, r_6, r_7, r_8, o_9, g_9_0, g_9_1, g_9_2, g_9_3, g_9_4, g_9_5, g_9_6, g_9_7, g_9_8, g_9_9, r_10, r_11, r_12, r_13, r_14, r_15, r_16, o_17, g_17_0, g_17_1, g_17_2, g_17_3, g_17_4, r_18, r_19, r_20, r_22, r_23, r_24, r_25, r_26, r_27, r_28, o_29, g_29_0, g_29_1, g_29_2, g_29_3, g_29_4, g_29_5, g_29_6, g_29_7, g_29_8, g_29_9, r_30, r_31, r_32, r_33, r_34, r_35, r_36, o_37, g_37_0, g_37_1, g_37_2, g_37_3, g_37_4, g_37_5, g_37_6, g_37_7, g_37_8, g_37_9, r_38, r_39, r_40, r_41, r_42, r_43, r_44, o_45, g_45_0, g_45_1, g_45_2, g_45_3, g_45_4, g_45_5, g_45_6, g_45_7, g_45_8, g_45_9, r_46, r_47, r_48, r_49, r_50, r_51, r_52, o_53, g_53_0, g_53_1, g_53_2, g_53_3, g_53_4, g_53_5, g_53_6, g_53_7, g_53_8, g_53_9, r_54, r_55, r_56, r_57, r_58, r_59, r_60, o_61, g_61_0, g_61_1, g_61_2, g_61_3, g_61_4, g_61_5, g_61_6, g_61_7, g_61_8, g_61_9, g_61_10, g_61_11, g_61_12, g_61_13, g_61_14, g_61_15, g_61_16, g_61_17, g_61_18, g_61_19, g_61_20, g_61_21, g_61_22, g_61_23, r_62, r_63, r_64, r_65, r_66, r_67, r_68, r_69, r_70, r_71, r_72, r_73, r_74, r_75, r_76, r_77, Option.bind_some, hL.2.1]
  rcases h with h | ⟨h, h2⟩
  · rw [if_pos h]
  · rw [if_neg h, if_neg (fun q => nle_lt q h2)]
theorem rr_y {n : Nat} (hn : n38 n) {m : Mem} (hL : LC n m) {t : Nat} (ht : t < nR n) : f_X3_requireRelation 0 (nI t) (HH m) = some (.inr ()) := by
  have hT := nR_le hn
  have h : nI t < nI (nR n) := by
    rw [Int32.lt_iff_toInt_lt, nI_toInt (by omega), nI_toInt (by omega)]
    omega
  simp only [f_X3_requireRelation, o_0, g_0_0, g_0_1, g_0_2, g_0_3, g_0_4, g_0_5, g_0_6, g_0_7, g_0_8, g_0_9, g_0_10, g_0_11, o_1, g_1_0, g_1_1, g_1_2, g_1_3, g_1_4, g_1_5, g_1_6, g_1_7, g_1_8, g_1_9, r_2, r_3, r_4, r_5, r_6, r_7, r_8, o_9, g_9_0, g_9_1, g_9_2, g_9_3, g_9_4, g_9_5, g_9_6, g_9_7, g_9_8, g_9_9, r_10, r_11, r_12, r_13, r_14, r_15, r_16, o_17, g_17_0, g_17_1, g_17_2, g_17_3, g_17_4, r_18, r_19, r_20, r_22, r_23, r_24, r_25, r_26, r_27, r_28, o_29, g_29_0, g_29_1, g_29_2, g_29_3, g_29_4, g_29_5, g_29_6, g_29_7, g_29_8, g_29_9, r_30, r_31, r_32, r_33, r_34, r_35, r_36, o_37, g_37_0, g_37_1, g_37_2, g_37_3, g_37_4, g_37_5, g_37_6, g_37_7, g_37_8, g_37_9, r_38, r_39, r_40, r_41, r_42, r_43, r_44, o_45, g_45_0, g_45_1, g_45_2, g_45_3, g_45_4, g_45_5, g_45_6, g_45_7, g_45_8, g_45_9, r_46, r_47, r_48, r_49, r_50, r_51, r_52, o_53, g_53_0, g_53_1, g_53_2, g_53_3, g_53_4, g_53_5, g_53_6, g_53_7, g_53_8, g_53_9, r_54, r_55, r_56, r_57, r_58, r_59, r_60, o_61, g_61_0, g_61_1, g_61_2, g_61_3, g_61_4, g_61_5, g_61_6, g_61_7, g_61_8, g_61_9, g_61_10, g_61_11, g_61_12, g_61_13, g_61_14, g_61_15, g_61_16, g_61_17, g_61_18, g_61_19, g_61_20, g_61_21, g_61_22, g_61_23, r_62, r_63, r_64, r_65, r_66, r_67, r_68, r_69, r_70, r_71, r_72, r_73, r_74, r_75, r_76, r_77, Option.bind_some, if_neg (nI_pos (show t < 2 ^ 31 by omega)), hL.2.2.1, if_pos h]
theorem rr_n {n : Nat} {m : Mem} (hL : LC n m) {x : Int32} (h : x < 0 ∨ (¬ x < 0 ∧ nI (nR n) ≤ x)) : f_X3_requireRelation 0 x (HH m) = some (.inl 1) := by
  simp only [f_X3_requireRelation, o_0, g_0_0, g_0_1, g_0_2, g_0_3, g_0_4, g_0_5, g_0_6, g_0_7, g_0_8, g_0_9, g_0_10, g_0_11, o_1, g_1_0, g_1_1, g_1_2, g_1_3, g_1_4, g_1_5, g_1_6, g_1_7, g_1_8, g_1_9, r_2, r_3, r_4, r_5, r_6, r_7, r_8, o_9, g_9_0, g_9_1, g_9_2, g_9_3, g_9_4, g_9_5, g_9_6, g_9_7, g_9_8, g_9_9, r_10, r_11, r_12, r_13, r_14, r_15, r_16, o_17, g_17_0, g_17_1, g_17_2, g_17_3, g_17_4, r_18, r_19, r_20, r_22, r_23, r_24, r_25, r_26, r_27, r_28, o_29, g_29_0, g_29_1, g_29_2, g_29_3, g_29_4, g_29_5, g_29_6, g_29_7, g_29_8, g_29_9, r_30, r_31, r_32, r_33, r_34, r_35, r_36, o_37, g_37_0, g_37_1, g_37_2, g_37_3, g_37_4, g_37_5, g_37_6, g_37_7, g_37_8, g_37_9, r_38, r_39, r_40, r_41, r_42, r_43, r_44, o_45, g_45_0, g_45_1, g_45_2, g_45_3, g_45_4, g_45_5, g_45_6, g_45_7, g_45_8, g_45_9, r_46, r_47, r_48, r_49, r_50, r_51, r_52, o_53, g_53_0, g_53_1, g_53_2, g_53_3, g_53_4, g_53_5, g_53_6, g_53_7, g_53_8, g_53_9, r_54, r_55, r_56, r_57, r_58, r_59, r_60, o_61, g_61_0, g_61_1, g_61_2, g_61_3, g_61_4, g_61_5, g_61_6, g_61_7, g_61_8, g_61_9, g_61_10, g_61_11, g_61_12, g_61_13, g_61_14, g_61_15, g_61_16, g_61_17, g_61_18, g_61_19, g_61_20, g_61_21, g_61_22, g_61_23, r_62, r_63, r_64, r_65, r_66, r_67, r_68, r_69, r_70, r_71, r_72, r_73, r_74, r_75, r_76, r_77, Option.bind_some, hL.2.2.1]
  rcases h with h | ⟨h, h2⟩
  · rw [if_pos h]
  · rw [if_neg h, if_neg (fun q => nle_lt q h2)]
theorem gB1 : gB (1 : Int32) = some () := if_pos (Or.inr rfl)
theorem gB0 : gB (0 : Int32) = some () := if_pos (Or.inl rfl)
theorem mt_y {n : Nat} (hn : n38 n) {m : Mem} (hL : LM n m) {t : Nat} (ht : t < nT n) : f_X4_isTriple 61 (nI t) (HH m) = some 1 := by
  have hT := nT_le hn
  simp only [f_X4_isTriple, o_61, g_61_9, Option.bind_some, hL.1, ix_y (show nT n < 2 ^ 31 by omega) ht, gB1]
theorem mt_n {n : Nat} (hn : n38 n) {m : Mem} (hL : LM n m) {x : Int32} (h : x < 0 ∨ (¬ x < 0 ∧ nI (nT n) ≤ x)) : f_X4_isTriple 61 x (HH m) = some 0 := by
  have hT := nT_le hn
  simp only [f_X4_isTriple, o_61, g_61_9, Option.bind_some, hL.1, ix_n (show nT n < 2 ^ 31 by omega) h, gB0]
theorem mr_y {n : Nat} (hn : n38 n) {m : Mem} (hL : LM n m) {t : Nat} (ht : t < nR n) : f_X4_isRelation 61 (nI t) (HH m) = some 1 := by
  have hT := nR_le hn
  simp only [f_X4_isRelation, o_61, g_61_11, Option.bind_some, hL.2.1, ix_y (show nR n < 2 ^ 31 by omega) ht, gB1]
theorem mr_n {n : Nat} (hn : n38 n) {m : Mem} (hL : LM n m) {x : Int32} (h : x < 0 ∨ (¬ x < 0 ∧ nI (nR n) ≤ x)) : f_X4_isRelation 61 x (HH m) = some 0 := by
  have hT := nR_le hn
  simp only [f_X4_isRelation, o_61, g_61_11, Option.bind_some, hL.2.1, ix_n (show nR n < 2 ^ 31 by omega) h, gB0]
/-- a small int, or out of range -/
theorem sm_or {N : Nat} (hN : N < 2 ^ 31 - 1) (w : Int32) : (∃ i, i ≤ N ∧ w = nI i) ∨ (w < 0 ∨ nI N < w) := by
  rcases ix_or (N := N + 1) (by omega) w with ⟨i, hi, e⟩ | h | ⟨h0, h⟩
  · exact Or.inl ⟨i, by omega, e⟩
  · exact Or.inr (Or.inl h)
  · refine Or.inr (Or.inr ?_)
    rw [Int32.le_iff_toInt_le, nI_toInt (by omega)] at h
    rw [Int32.lt_iff_toInt_lt, nI_toInt (by omega)]
    omega
theorem sm_ne {N i : Nat} (hN : N < 2 ^ 31) (hi : i ≤ N) {w : Int32} (h : w < 0 ∨ nI N < w) : ¬ w = nI i := by
  intro e
  rw [e, Int32.lt_iff_toInt_lt, Int32.lt_iff_toInt_lt, nI_toInt (by omega), nI_toInt (by omega)] at h
  have k : (0 : Int32).toInt = 0 := by decide
  omega
section Readers2
variable {m : Mem}
theorem k_triple (hi : INV m) (x w : Int32) : okW (f_L_triple 0 x w 77) (f_X4_triple 61 x w) m := by
  obtain ⟨n, s, M, q, P, PM, tl, tx, hC, hD, b⟩ := INV_out hi
  have hn := b.1.1
  have hT := nT_le hn
  have n0 : ¬ (1 : Int32) = 0 := by decide
  rcases ix_or (show nT n < 2 ^ 31 by omega) x with ⟨t, ht, rfl⟩ | hx
  · rcases sm_or (N := 6) (by omega) w with ⟨i, hi6, rfl⟩ | hw
    · have z := hC.2.2.1.2.2.2.1 t (by omega)
      have fin : ∀ v : Int32, f_X3_triple 0 (nI t) (nI i) (HH m) = some (.inr v) → (∀ m3, DD n s q P tl tx m3 → f_X4_value 61 (nI t) (nI i) (HH m3) = some v) → okW (f_L_triple 0 (nI t) (nI i) 77) (f_X4_triple 61 (nI t) (nI i)) m := by
        intro v h1 h2
        refine W_ok (m1 := m) (w := v.toInt64) ?_ hC (upC_rf m) hD b (fun m3 hD3 => ⟨v, _, ?_, rfl, fl hD3 0⟩)
        · simp only [f_L_triple, h1, bindT, w77, Option.bind_some]
        · have iy : f_X4_in (nI i) 0 6 = some 1 := by
            have e : i = 0 ∨ i = 1 ∨ i = 2 ∨ i = 3 ∨ i = 4 ∨ i = 5 ∨ i = 6 := by omega
            rcases e with rfl | rfl | rfl | rfl | rfl | rfl | rfl <;> rfl
          simp only [f_X4_triple, o_61, Option.bind_some, mt_y hn hD3.1 ht, if_neg n0, iy, h2 m3 hD3, m_tells, bind2]
      have cv : ∀ m3, DD n s q P tl tx m3 → ∀ w', w' < 3 → aI (HH m3) 66 (nI (3 * t + w')) = some (nI (cor n t w')) := fun m3 h w' hw' => by
        rw [r_66 m3 (by omega), h.1.2.2.1 t w' ht hw']
      have sv : ∀ m3, DD n s q P tl tx m3 → m3.I 62 = s := fun m3 h => h.2.1
      have e : i = 0 ∨ i = 1 ∨ i = 2 ∨ i = 3 ∨ i = 4 ∨ i = 5 ∨ i = 6 := by omega
      rcases e with rfl | rfl | rfl | rfl | rfl | rfl | rfl
      · refine fin (nI (cor n t 0)) ?_ (fun m3 h => ?_)
        · have k0 : f_X0_corner 1 (nI t) (nI 0) (HH m) = _ := cl_cor hn hC.1 ht (w := 0) (by omega)
          simp only [f_X3_triple, o_0, g_0_0, g_0_1, g_0_2, g_0_3, g_0_4, g_0_5, g_0_6, g_0_7, g_0_8, g_0_9, g_0_10, g_0_11, o_1, g_1_0, g_1_1, g_1_2, g_1_3, g_1_4, g_1_5, g_1_6, g_1_7, g_1_8, g_1_9, r_2, r_3, r_4, r_5, r_6, r_7, r_8, o_9, g_9_0, g_9_1, g_9_2, g_9_3, g_9_4, g_9_5, g_9_6, g_9_7, g_9_8, g_9_9, r_10, r_11, r_12, r_13, r_14, r_15, r_16, o_17, g_17_0, g_17_1, g_17_2, g_17_3, g_17_4, r_18, r_19, r_20, r_22, r_23, r_24, r_25, r_26, r_27, r_28, o_29, g_29_0, g_29_1, g_29_2, g_29_3, g_29_4, g_29_5, g_29_6, g_29_7, g_29_8, g_29_9, r_30, r_31, r_32, r_33, r_34, r_35, r_36, o_37, g_37_0, g_37_1, g_37_2, g_37_3, g_37_4, g_37_5, g_37_6, g_37_7, g_37_8, g_37_9, r_38, r_39, r_40, r_41, r_42, r_43, r_44, o_45, g_45_0, g_45_1, g_45_2, g_45_3, g_45_4, g_45_5, g_45_6, g_45_7, g_45_8, g_45_9, r_46, r_47, r_48, r_49, r_50, r_51, r_52, o_53, g_53_0, g_53_1, g_53_2, g_53_3, g_53_4, g_53_5, g_53_6, g_53_7, g_53_8, g_53_9, r_54, r_55, r_56, r_57, r_58, r_59, r_60, o_61, g_61_0, g_61_1, g_61_2, g_61_3, g_61_4, g_61_5, g_61_6, g_61_7, g_61_8, g_61_9, g_61_10, g_61_11, g_61_12, g_61_13, g_61_14, g_61_15, g_61_16, g_61_17, g_61_18, g_61_19, g_61_20, g_61_21, g_61_22, g_61_23, r_62, r_63, r_64, r_65, r_66, r_67, r_68, r_69, r_70, r_71, r_72, r_73, r_74, r_75, r_76, r_77, Option.bind_some, rt_y hn hC.1 ht, bindT, if_pos (show nI 0 = (0 : Int32) from rfl), k0]
        · have := cv m3 h 0 (by omega)
          simp only [f_X4_value, o_0, g_0_0, g_0_1, g_0_2, g_0_3, g_0_4, g_0_5, g_0_6, g_0_7, g_0_8, g_0_9, g_0_10, g_0_11, o_1, g_1_0, g_1_1, g_1_2, g_1_3, g_1_4, g_1_5, g_1_6, g_1_7, g_1_8, g_1_9, r_2, r_3, r_4, r_5, r_6, r_7, r_8, o_9, g_9_0, g_9_1, g_9_2, g_9_3, g_9_4, g_9_5, g_9_6, g_9_7, g_9_8, g_9_9, r_10, r_11, r_12, r_13, r_14, r_15, r_16, o_17, g_17_0, g_17_1, g_17_2, g_17_3, g_17_4, r_18, r_19, r_20, r_22, r_23, r_24, r_25, r_26, r_27, r_28, o_29, g_29_0, g_29_1, g_29_2, g_29_3, g_29_4, g_29_5, g_29_6, g_29_7, g_29_8, g_29_9, r_30, r_31, r_32, r_33, r_34, r_35, r_36, o_37, g_37_0, g_37_1, g_37_2, g_37_3, g_37_4, g_37_5, g_37_6, g_37_7, g_37_8, g_37_9, r_38, r_39, r_40, r_41, r_42, r_43, r_44, o_45, g_45_0, g_45_1, g_45_2, g_45_3, g_45_4, g_45_5, g_45_6, g_45_7, g_45_8, g_45_9, r_46, r_47, r_48, r_49, r_50, r_51, r_52, o_53, g_53_0, g_53_1, g_53_2, g_53_3, g_53_4, g_53_5, g_53_6, g_53_7, g_53_8, g_53_9, r_54, r_55, r_56, r_57, r_58, r_59, r_60, o_61, g_61_0, g_61_1, g_61_2, g_61_3, g_61_4, g_61_5, g_61_6, g_61_7, g_61_8, g_61_9, g_61_10, g_61_11, g_61_12, g_61_13, g_61_14, g_61_15, g_61_16, g_61_17, g_61_18, g_61_19, g_61_20, g_61_21, g_61_22, g_61_23, r_62, r_63, r_64, r_65, r_66, r_67, r_68, r_69, r_70, r_71, r_72, r_73, r_74, r_75, r_76, r_77, Option.bind_some, if_neg (show ¬ nI 3 ≤ nI 0 by decide), show (3 : Int32) = nI 3 from rfl, pk_mul, nI_add, this]
      · refine fin (nI (cor n t 1)) ?_ (fun m3 h => ?_)
        · have k0 : f_X0_corner 1 (nI t) (nI 1) (HH m) = _ := cl_cor hn hC.1 ht (w := 1) (by omega)
          simp only [f_X3_triple, o_0, g_0_0, g_0_1, g_0_2, g_0_3, g_0_4, g_0_5, g_0_6, g_0_7, g_0_8, g_0_9, g_0_10, g_0_11, o_1, g_1_0, g_1_1, g_1_2, g_1_3, g_1_4, g_1_5, g_1_6, g_1_7, g_1_8, g_1_9, r_2, r_3, r_4, r_5, r_6, r_7, r_8, o_9, g_9_0, g_9_1, g_9_2, g_9_3, g_9_4, g_9_5, g_9_6, g_9_7, g_9_8, g_9_9, r_10, r_11, r_12, r_13, r_14, r_15, r_16, o_17, g_17_0, g_17_1, g_17_2, g_17_3, g_17_4, r_18, r_19, r_20, r_22, r_23, r_24, r_25, r_26, r_27, r_28, o_29, g_29_0, g_29_1, g_29_2, g_29_3, g_29_4, g_29_5, g_29_6, g_29_7, g_29_8, g_29_9, r_30, r_31, r_32, r_33, r_34, r_35, r_36, o_37, g_37_0, g_37_1, g_37_2, g_37_3, g_37_4, g_37_5, g_37_6, g_37_7, g_37_8, g_37_9, r_38, r_39, r_40, r_41, r_42, r_43, r_44, o_45, g_45_0, g_45_1, g_45_2, g_45_3, g_45_4, g_45_5, g_45_6, g_45_7, g_45_8, g_45_9, r_46, r_47, r_48, r_49, r_50, r_51, r_52, o_53, g_53_0, g_53_1, g_53_2, g_53_3, g_53_4, g_53_5, g_53_6, g_53_7, g_53_8, g_53_9, r_54, r_55, r_56, r_57, r_58, r_59, r_60, o_61, g_61_0, g_61_1, g_61_2, g_61_3, g_61_4, g_61_5, g_61_6, g_61_7, g_61_8, g_61_9, g_61_10, g_61_11, g_61_12, g_61_13, g_61_14, g_61_15, g_61_16, g_61_17, g_61_18, g_61_19, g_61_20, g_61_21, g_61_22, g_61_23, r_62, r_63, r_64, r_65, r_66, r_67, r_68, r_69, r_70, r_71, r_72, r_73, r_74, r_75, r_76, r_77, Option.bind_some, rt_y hn hC.1 ht, bindT, if_neg (show ¬ nI 1 = (0 : Int32) by decide), if_pos (show nI 1 = (1 : Int32) from rfl), k0]
        · have := cv m3 h 1 (by omega)
          simp only [f_X4_value, o_0, g_0_0, g_0_1, g_0_2, g_0_3, g_0_4, g_0_5, g_0_6, g_0_7, g_0_8, g_0_9, g_0_10, g_0_11, o_1, g_1_0, g_1_1, g_1_2, g_1_3, g_1_4, g_1_5, g_1_6, g_1_7, g_1_8, g_1_9, r_2, r_3, r_4, r_5, r_6, r_7, r_8, o_9, g_9_0, g_9_1, g_9_2, g_9_3, g_9_4, g_9_5, g_9_6, g_9_7, g_9_8, g_9_9, r_10, r_11, r_12, r_13, r_14, r_15, r_16, o_17, g_17_0, g_17_1, g_17_2, g_17_3, g_17_4, r_18, r_19, r_20, r_22, r_23, r_24, r_25, r_26, r_27, r_28, o_29, g_29_0, g_29_1, g_29_2, g_29_3, g_29_4, g_29_5, g_29_6, g_29_7, g_29_8, g_29_9, r_30, r_31, r_32, r_33, r_34, r_35, r_36, o_37, g_37_0, g_37_1, g_37_2, g_37_3, g_37_4, g_37_5, g_37_6, g_37_7, g_37_8, g_37_9, r_38, r_39, r_40, r_41, r_42, r_43, r_44, o_45, g_45_0, g_45_1, g_45_2, g_45_3, g_45_4, g_45_5, g_45_6, g_45_7, g_45_8, g_45_9, r_46, r_47, r_48, r_49, r_50, r_51, r_52, o_53, g_53_0, g_53_1, g_53_2, g_53_3, g_53_4, g_53_5, g_53_6, g_53_7, g_53_8, g_53_9, r_54, r_55, r_56, r_57, r_58, r_59, r_60, o_61, g_61_0, g_61_1, g_61_2, g_61_3, g_61_4, g_61_5, g_61_6, g_61_7, g_61_8, g_61_9, g_61_10, g_61_11, g_61_12, g_61_13, g_61_14, g_61_15, g_61_16, g_61_17, g_61_18, g_61_19, g_61_20, g_61_21, g_61_22, g_61_23, r_62, r_63, r_64, r_65, r_66, r_67, r_68, r_69, r_70, r_71, r_72, r_73, r_74, r_75, r_76, r_77, Option.bind_some, if_neg (show ¬ nI 3 ≤ nI 1 by decide), show (3 : Int32) = nI 3 from rfl, pk_mul, nI_add, this]
      · refine fin (nI (cor n t 2)) ?_ (fun m3 h => ?_)
        · have k0 : f_X0_corner 1 (nI t) (nI 2) (HH m) = _ := cl_cor hn hC.1 ht (w := 2) (by omega)
          simp only [f_X3_triple, o_0, g_0_0, g_0_1, g_0_2, g_0_3, g_0_4, g_0_5, g_0_6, g_0_7, g_0_8, g_0_9, g_0_10, g_0_11, o_1, g_1_0, g_1_1, g_1_2, g_1_3, g_1_4, g_1_5, g_1_6, g_1_7, g_1_8, g_1_9, r_2, r_3, r_4, r_5, r_6, r_7, r_8, o_9, g_9_0, g_9_1, g_9_2, g_9_3, g_9_4, g_9_5, g_9_6, g_9_7, g_9_8, g_9_9, r_10, r_11, r_12, r_13, r_14, r_15, r_16, o_17, g_17_0, g_17_1, g_17_2, g_17_3, g_17_4, r_18, r_19, r_20, r_22, r_23, r_24, r_25, r_26, r_27, r_28, o_29, g_29_0, g_29_1, g_29_2, g_29_3, g_29_4, g_29_5, g_29_6, g_29_7, g_29_8, g_29_9, r_30, r_31, r_32, r_33, r_34, r_35, r_36, o_37, g_37_0, g_37_1, g_37_2, g_37_3, g_37_4, g_37_5, g_37_6, g_37_7, g_37_8, g_37_9, r_38, r_39, r_40, r_41, r_42, r_43, r_44, o_45, g_45_0, g_45_1, g_45_2, g_45_3, g_45_4, g_45_5, g_45_6, g_45_7, g_45_8, g_45_9, r_46, r_47, r_48, r_49, r_50, r_51, r_52, o_53, g_53_0, g_53_1, g_53_2, g_53_3, g_53_4, g_53_5, g_53_6, g_53_7, g_53_8, g_53_9, r_54, r_55, r_56, r_57, r_58, r_59, r_60, o_61, g_61_0, g_61_1, g_61_2, g_61_3, g_61_4, g_61_5, g_61_6, g_61_7, g_61_8, g_61_9, g_61_10, g_61_11, g_61_12, g_61_13, g_61_14, g_61_15, g_61_16, g_61_17, g_61_18, g_61_19, g_61_20, g_61_21, g_61_22, g_61_23, r_62, r_63, r_64, r_65, r_66, r_67, r_68, r_69, r_70, r_71, r_72, r_73, r_74, r_75, r_76, r_77, Option.bind_some, rt_y hn hC.1 ht, bindT, if_neg (show ¬ nI 2 = (0 : Int32) by decide), if_neg (show ¬ nI 2 = (1 : Int32) by decide), if_pos (show nI 2 = (2 : Int32) from rfl), k0]
        · have := cv m3 h 2 (by omega)
          simp only [f_X4_value, o_0, g_0_0, g_0_1, g_0_2, g_0_3, g_0_4, g_0_5, g_0_6, g_0_7, g_0_8, g_0_9, g_0_10, g_0_11, o_1, g_1_0, g_1_1, g_1_2, g_1_3, g_1_4, g_1_5, g_1_6, g_1_7, g_1_8, g_1_9, r_2, r_3, r_4, r_5, r_6, r_7, r_8, o_9, g_9_0, g_9_1, g_9_2, g_9_3, g_9_4, g_9_5, g_9_6, g_9_7, g_9_8, g_9_9, r_10, r_11, r_12, r_13, r_14, r_15, r_16, o_17, g_17_0, g_17_1, g_17_2, g_17_3, g_17_4, r_18, r_19, r_20, r_22, r_23, r_24, r_25, r_26, r_27, r_28, o_29, g_29_0, g_29_1, g_29_2, g_29_3, g_29_4, g_29_5, g_29_6, g_29_7, g_29_8, g_29_9, r_30, r_31, r_32, r_33, r_34, r_35, r_36, o_37, g_37_0, g_37_1, g_37_2, g_37_3, g_37_4, g_37_5, g_37_6, g_37_7, g_37_8, g_37_9, r_38, r_39, r_40, r_41, r_42, r_43, r_44, o_45, g_45_0, g_45_1, g_45_2, g_45_3, g_45_4, g_45_5, g_45_6, g_45_7, g_45_8, g_45_9, r_46, r_47, r_48, r_49, r_50, r_51, r_52, o_53, g_53_0, g_53_1, g_53_2, g_53_3, g_53_4, g_53_5, g_53_6, g_53_7, g_53_8, g_53_9, r_54, r_55, r_56, r_57, r_58, r_59, r_60, o_61, g_61_0, g_61_1, g_61_2, g_61_3, g_61_4, g_61_5, g_61_6, g_61_7, g_61_8, g_61_9, g_61_10, g_61_11, g_61_12, g_61_13, g_61_14, g_61_15, g_61_16, g_61_17, g_61_18, g_61_19, g_61_20, g_61_21, g_61_22, g_61_23, r_62, r_63, r_64, r_65, r_66, r_67, r_68, r_69, r_70, r_71, r_72, r_73, r_74, r_75, r_76, r_77, Option.bind_some, if_neg (show ¬ nI 3 ≤ nI 2 by decide), show (3 : Int32) = nI 3 from rfl, pk_mul, nI_add, this]
      · refine fin (s (3 + 4 * t)) ?_ (fun m3 h => ?_)
        · simp (disch := omega) only [f_X3_triple, o_0, g_0_0, g_0_1, g_0_2, g_0_3, g_0_4, g_0_5, g_0_6, g_0_7, g_0_8, g_0_9, g_0_10, g_0_11, o_1, g_1_0, g_1_1, g_1_2, g_1_3, g_1_4, g_1_5, g_1_6, g_1_7, g_1_8, g_1_9, r_2, r_3, r_4, r_5, r_6, r_7, r_8, o_9, g_9_0, g_9_1, g_9_2, g_9_3, g_9_4, g_9_5, g_9_6, g_9_7, g_9_8, g_9_9, r_10, r_11, r_12, r_13, r_14, r_15, r_16, o_17, g_17_0, g_17_1, g_17_2, g_17_3, g_17_4, r_18, r_19, r_20, r_22, r_23, r_24, r_25, r_26, r_27, r_28, o_29, g_29_0, g_29_1, g_29_2, g_29_3, g_29_4, g_29_5, g_29_6, g_29_7, g_29_8, g_29_9, r_30, r_31, r_32, r_33, r_34, r_35, r_36, o_37, g_37_0, g_37_1, g_37_2, g_37_3, g_37_4, g_37_5, g_37_6, g_37_7, g_37_8, g_37_9, r_38, r_39, r_40, r_41, r_42, r_43, r_44, o_45, g_45_0, g_45_1, g_45_2, g_45_3, g_45_4, g_45_5, g_45_6, g_45_7, g_45_8, g_45_9, r_46, r_47, r_48, r_49, r_50, r_51, r_52, o_53, g_53_0, g_53_1, g_53_2, g_53_3, g_53_4, g_53_5, g_53_6, g_53_7, g_53_8, g_53_9, r_54, r_55, r_56, r_57, r_58, r_59, r_60, o_61, g_61_0, g_61_1, g_61_2, g_61_3, g_61_4, g_61_5, g_61_6, g_61_7, g_61_8, g_61_9, g_61_10, g_61_11, g_61_12, g_61_13, g_61_14, g_61_15, g_61_16, g_61_17, g_61_18, g_61_19, g_61_20, g_61_21, g_61_22, g_61_23, r_62, r_63, r_64, r_65, r_66, r_67, r_68, r_69, r_70, r_71, r_72, r_73, r_74, r_75, r_76, r_77, Option.bind_some, rt_y hn hC.1 ht, bindT, if_neg (show ¬ nI 3 = (0 : Int32) by decide), if_neg (show ¬ nI 3 = (1 : Int32) by decide), if_neg (show ¬ nI 3 = (2 : Int32) by decide), if_pos (show nI 3 = (3 : Int32) from rfl)]
          rw [show m.I 10 t = _ from z.1]
        · have := get_0 m3 (t := t) (by omega)
          rw [sv m3 h] at this
          simp only [f_X4_value, o_0, g_0_0, g_0_1, g_0_2, g_0_3, g_0_4, g_0_5, g_0_6, g_0_7, g_0_8, g_0_9, g_0_10, g_0_11, o_1, g_1_0, g_1_1, g_1_2, g_1_3, g_1_4, g_1_5, g_1_6, g_1_7, g_1_8, g_1_9, r_2, r_3, r_4, r_5, r_6, r_7, r_8, o_9, g_9_0, g_9_1, g_9_2, g_9_3, g_9_4, g_9_5, g_9_6, g_9_7, g_9_8, g_9_9, r_10, r_11, r_12, r_13, r_14, r_15, r_16, o_17, g_17_0, g_17_1, g_17_2, g_17_3, g_17_4, r_18, r_19, r_20, r_22, r_23, r_24, r_25, r_26, r_27, r_28, o_29, g_29_0, g_29_1, g_29_2, g_29_3, g_29_4, g_29_5, g_29_6, g_29_7, g_29_8, g_29_9, r_30, r_31, r_32, r_33, r_34, r_35, r_36, o_37, g_37_0, g_37_1, g_37_2, g_37_3, g_37_4, g_37_5, g_37_6, g_37_7, g_37_8, g_37_9, r_38, r_39, r_40, r_41, r_42, r_43, r_44, o_45, g_45_0, g_45_1, g_45_2, g_45_3, g_45_4, g_45_5, g_45_6, g_45_7, g_45_8, g_45_9, r_46, r_47, r_48, r_49, r_50, r_51, r_52, o_53, g_53_0, g_53_1, g_53_2, g_53_3, g_53_4, g_53_5, g_53_6, g_53_7, g_53_8, g_53_9, r_54, r_55, r_56, r_57, r_58, r_59, r_60, o_61, g_61_0, g_61_1, g_61_2, g_61_3, g_61_4, g_61_5, g_61_6, g_61_7, g_61_8, g_61_9, g_61_10, g_61_11, g_61_12, g_61_13, g_61_14, g_61_15, g_61_16, g_61_17, g_61_18, g_61_19, g_61_20, g_61_21, g_61_22, g_61_23, r_62, r_63, r_64, r_65, r_66, r_67, r_68, r_69, r_70, r_71, r_72, r_73, r_74, r_75, r_76, r_77, Option.bind_some, if_pos (show (3 : Int32) ≤ nI 3 by decide), show nI 3 - (3 : Int32) = 0 from rfl, this]
      · refine fin (s (3 + 4 * t + 1)) ?_ (fun m3 h => ?_)
        · simp (disch := omega) only [f_X3_triple, o_0, g_0_0, g_0_1, g_0_2, g_0_3, g_0_4, g_0_5, g_0_6, g_0_7, g_0_8, g_0_9, g_0_10, g_0_11, o_1, g_1_0, g_1_1, g_1_2, g_1_3, g_1_4, g_1_5, g_1_6, g_1_7, g_1_8, g_1_9, r_2, r_3, r_4, r_5, r_6, r_7, r_8, o_9, g_9_0, g_9_1, g_9_2, g_9_3, g_9_4, g_9_5, g_9_6, g_9_7, g_9_8, g_9_9, r_10, r_11, r_12, r_13, r_14, r_15, r_16, o_17, g_17_0, g_17_1, g_17_2, g_17_3, g_17_4, r_18, r_19, r_20, r_22, r_23, r_24, r_25, r_26, r_27, r_28, o_29, g_29_0, g_29_1, g_29_2, g_29_3, g_29_4, g_29_5, g_29_6, g_29_7, g_29_8, g_29_9, r_30, r_31, r_32, r_33, r_34, r_35, r_36, o_37, g_37_0, g_37_1, g_37_2, g_37_3, g_37_4, g_37_5, g_37_6, g_37_7, g_37_8, g_37_9, r_38, r_39, r_40, r_41, r_42, r_43, r_44, o_45, g_45_0, g_45_1, g_45_2, g_45_3, g_45_4, g_45_5, g_45_6, g_45_7, g_45_8, g_45_9, r_46, r_47, r_48, r_49, r_50, r_51, r_52, o_53, g_53_0, g_53_1, g_53_2, g_53_3, g_53_4, g_53_5, g_53_6, g_53_7, g_53_8, g_53_9, r_54, r_55, r_56, r_57, r_58, r_59, r_60, o_61, g_61_0, g_61_1, g_61_2, g_61_3, g_61_4, g_61_5, g_61_6, g_61_7, g_61_8, g_61_9, g_61_10, g_61_11, g_61_12, g_61_13, g_61_14, g_61_15, g_61_16, g_61_17, g_61_18, g_61_19, g_61_20, g_61_21, g_61_22, g_61_23, r_62, r_63, r_64, r_65, r_66, r_67, r_68, r_69, r_70, r_71, r_72, r_73, r_74, r_75, r_76, r_77, Option.bind_some, rt_y hn hC.1 ht, bindT, if_neg (show ¬ nI 4 = (0 : Int32) by decide), if_neg (show ¬ nI 4 = (1 : Int32) by decide), if_neg (show ¬ nI 4 = (2 : Int32) by decide), if_neg (show ¬ nI 4 = (3 : Int32) by decide), if_pos (show nI 4 = (4 : Int32) from rfl)]
          rw [show m.I 11 t = _ from z.2.1]
        · have := get_1 m3 (t := t) (by omega)
          rw [sv m3 h] at this
          simp only [f_X4_value, o_0, g_0_0, g_0_1, g_0_2, g_0_3, g_0_4, g_0_5, g_0_6, g_0_7, g_0_8, g_0_9, g_0_10, g_0_11, o_1, g_1_0, g_1_1, g_1_2, g_1_3, g_1_4, g_1_5, g_1_6, g_1_7, g_1_8, g_1_9, r_2, r_3, r_4, r_5, r_6, r_7, r_8, o_9, g_9_0, g_9_1, g_9_2, g_9_3, g_9_4, g_9_5, g_9_6, g_9_7, g_9_8, g_9_9, r_10, r_11, r_12, r_13, r_14, r_15, r_16, o_17, g_17_0, g_17_1, g_17_2, g_17_3, g_17_4, r_18, r_19, r_20, r_22, r_23, r_24, r_25, r_26, r_27, r_28, o_29, g_29_0, g_29_1, g_29_2, g_29_3, g_29_4, g_29_5, g_29_6, g_29_7, g_29_8, g_29_9, r_30, r_31, r_32, r_33, r_34, r_35, r_36, o_37, g_37_0, g_37_1, g_37_2, g_37_3, g_37_4, g_37_5, g_37_6, g_37_7, g_37_8, g_37_9, r_38, r_39, r_40, r_41, r_42, r_43, r_44, o_45, g_45_0, g_45_1, g_45_2, g_45_3, g_45_4, g_45_5, g_45_6, g_45_7, g_45_8, g_45_9, r_46, r_47, r_48, r_49, r_50, r_51, r_52, o_53, g_53_0, g_53_1, g_53_2, g_53_3, g_53_4, g_53_5, g_53_6, g_53_7, g_53_8, g_53_9, r_54, r_55, r_56, r_57, r_58, r_59, r_60, o_61, g_61_0, g_61_1, g_61_2, g_61_3, g_61_4, g_61_5, g_61_6, g_61_7, g_61_8, g_61_9, g_61_10, g_61_11, g_61_12, g_61_13, g_61_14, g_61_15, g_61_16, g_61_17, g_61_18, g_61_19, g_61_20, g_61_21, g_61_22, g_61_23, r_62, r_63, r_64, r_65, r_66, r_67, r_68, r_69, r_70, r_71, r_72, r_73, r_74, r_75, r_76, r_77, Option.bind_some, if_pos (show (3 : Int32) ≤ nI 4 by decide), show nI 4 - (3 : Int32) = 1 from rfl, this]
      · refine fin (s (3 + 4 * t + 2)) ?_ (fun m3 h => ?_)
        · simp (disch := omega) only [f_X3_triple, o_0, g_0_0, g_0_1, g_0_2, g_0_3, g_0_4, g_0_5, g_0_6, g_0_7, g_0_8, g_0_9, g_0_10, g_0_11, o_1, g_1_0, g_1_1, g_1_2, g_1_3, g_1_4, g_1_5, g_1_6, g_1_7, g_1_8, g_1_9, r_2, r_3, r_4, r_5, r_6, r_7, r_8, o_9, g_9_0, g_9_1, g_9_2, g_9_3, g_9_4, g_9_5, g_9_6, g_9_7, g_9_8, g_9_9, r_10, r_11, r_12, r_13, r_14, r_15, r_16, o_17, g_17_0, g_17_1, g_17_2, g_17_3, g_17_4, r_18, r_19, r_20, r_22, r_23, r_24, r_25, r_26, r_27, r_28, o_29, g_29_0, g_29_1, g_29_2, g_29_3, g_29_4, g_29_5, g_29_6, g_29_7, g_29_8, g_29_9, r_30, r_31, r_32, r_33, r_34, r_35, r_36, o_37, g_37_0, g_37_1, g_37_2, g_37_3, g_37_4, g_37_5, g_37_6, g_37_7, g_37_8, g_37_9, r_38, r_39, r_40, r_41, r_42, r_43, r_44, o_45, g_45_0, g_45_1, g_45_2, g_45_3, g_45_4, g_45_5, g_45_6, g_45_7, g_45_8, g_45_9, r_46, r_47, r_48, r_49, r_50, r_51, r_52, o_53, g_53_0, g_53_1, g_53_2, g_53_3, g_53_4, g_53_5, g_53_6, g_53_7, g_53_8, g_53_9, r_54, r_55, r_56, r_57, r_58, r_59, r_60, o_61, g_61_0, g_61_1, g_61_2, g_61_3, g_61_4, g_61_5, g_61_6, g_61_7, g_61_8, g_61_9, g_61_10, g_61_11, g_61_12, g_61_13, g_61_14, g_61_15, g_61_16, g_61_17, g_61_18, g_61_19, g_61_20, g_61_21, g_61_22, g_61_23, r_62, r_63, r_64, r_65, r_66, r_67, r_68, r_69, r_70, r_71, r_72, r_73, r_74, r_75, r_76, r_77, Option.bind_some, rt_y hn hC.1 ht, bindT, if_neg (show ¬ nI 5 = (0 : Int32) by decide), if_neg (show ¬ nI 5 = (1 : Int32) by decide), if_neg (show ¬ nI 5 = (2 : Int32) by decide), if_neg (show ¬ nI 5 = (3 : Int32) by decide), if_neg (show ¬ nI 5 = (4 : Int32) by decide), if_pos (show nI 5 = (5 : Int32) from rfl)]
          rw [show m.I 12 t = _ from z.2.2.1]
        · have := get_2 m3 (t := t) (by omega)
          rw [sv m3 h] at this
          simp only [f_X4_value, o_0, g_0_0, g_0_1, g_0_2, g_0_3, g_0_4, g_0_5, g_0_6, g_0_7, g_0_8, g_0_9, g_0_10, g_0_11, o_1, g_1_0, g_1_1, g_1_2, g_1_3, g_1_4, g_1_5, g_1_6, g_1_7, g_1_8, g_1_9, r_2, r_3, r_4, r_5, r_6, r_7, r_8, o_9, g_9_0, g_9_1, g_9_2, g_9_3, g_9_4, g_9_5, g_9_6, g_9_7, g_9_8, g_9_9, r_10, r_11, r_12, r_13, r_14, r_15, r_16, o_17, g_17_0, g_17_1, g_17_2, g_17_3, g_17_4, r_18, r_19, r_20, r_22, r_23, r_24, r_25, r_26, r_27, r_28, o_29, g_29_0, g_29_1, g_29_2, g_29_3, g_29_4, g_29_5, g_29_6, g_29_7, g_29_8, g_29_9, r_30, r_31, r_32, r_33, r_34, r_35, r_36, o_37, g_37_0, g_37_1, g_37_2, g_37_3, g_37_4, g_37_5, g_37_6, g_37_7, g_37_8, g_37_9, r_38, r_39, r_40, r_41, r_42, r_43, r_44, o_45, g_45_0, g_45_1, g_45_2, g_45_3, g_45_4, g_45_5, g_45_6, g_45_7, g_45_8, g_45_9, r_46, r_47, r_48, r_49, r_50, r_51, r_52, o_53, g_53_0, g_53_1, g_53_2, g_53_3, g_53_4, g_53_5, g_53_6, g_53_7, g_53_8, g_53_9, r_54, r_55, r_56, r_57, r_58, r_59, r_60, o_61, g_61_0, g_61_1, g_61_2, g_61_3, g_61_4, g_61_5, g_61_6, g_61_7, g_61_8, g_61_9, g_61_10, g_61_11, g_61_12, g_61_13, g_61_14, g_61_15, g_61_16, g_61_17, g_61_18, g_61_19, g_61_20, g_61_21, g_61_22, g_61_23, r_62, r_63, r_64, r_65, r_66, r_67, r_68, r_69, r_70, r_71, r_72, r_73, r_74, r_75, r_76, r_77, Option.bind_some, if_pos (show (3 : Int32) ≤ nI 5 by decide), show nI 5 - (3 : Int32) = 2 from rfl, this]
      · refine fin (s (3 + 4 * t + 3)) ?_ (fun m3 h => ?_)
        · simp (disch := omega) only [f_X3_triple, o_0, g_0_0, g_0_1, g_0_2, g_0_3, g_0_4, g_0_5, g_0_6, g_0_7, g_0_8, g_0_9, g_0_10, g_0_11, o_1, g_1_0, g_1_1, g_1_2, g_1_3, g_1_4, g_1_5, g_1_6, g_1_7, g_1_8, g_1_9, r_2, r_3, r_4, r_5, r_6, r_7, r_8, o_9, g_9_0, g_9_1, g_9_2, g_9_3, g_9_4, g_9_5, g_9_6, g_9_7, g_9_8, g_9_9, r_10, r_11, r_12, r_13, r_14, r_15, r_16, o_17, g_17_0, g_17_1, g_17_2, g_17_3, g_17_4, r_18, r_19, r_20, r_22, r_23, r_24, r_25, r_26, r_27, r_28, o_29, g_29_0, g_29_1, g_29_2, g_29_3, g_29_4, g_29_5, g_29_6, g_29_7, g_29_8, g_29_9, r_30, r_31, r_32, r_33, r_34, r_35, r_36, o_37, g_37_0, g_37_1, g_37_2, g_37_3, g_37_4, g_37_5, g_37_6, g_37_7, g_37_8, g_37_9, r_38, r_39, r_40, r_41, r_42, r_43, r_44, o_45, g_45_0, g_45_1, g_45_2, g_45_3, g_45_4, g_45_5, g_45_6, g_45_7, g_45_8, g_45_9, r_46, r_47, r_48, r_49, r_50, r_51, r_52, o_53, g_53_0, g_53_1, g_53_2, g_53_3, g_53_4, g_53_5, g_53_6, g_53_7, g_53_8, g_53_9, r_54, r_55, r_56, r_57, r_58, r_59, r_60, o_61, g_61_0, g_61_1, g_61_2, g_61_3, g_61_4, g_61_5, g_61_6, g_61_7, g_61_8, g_61_9, g_61_10, g_61_11, g_61_12, g_61_13, g_61_14, g_61_15, g_61_16, g_61_17, g_61_18, g_61_19, g_61_20, g_61_21, g_61_22, g_61_23, r_62, r_63, r_64, r_65, r_66, r_67, r_68, r_69, r_70, r_71, r_72, r_73, r_74, r_75, r_76, r_77, Option.bind_some, rt_y hn hC.1 ht, bindT, if_neg (show ¬ nI 6 = (0 : Int32) by decide), if_neg (show ¬ nI 6 = (1 : Int32) by decide), if_neg (show ¬ nI 6 = (2 : Int32) by decide), if_neg (show ¬ nI 6 = (3 : Int32) by decide), if_neg (show ¬ nI 6 = (4 : Int32) by decide), if_neg (show ¬ nI 6 = (5 : Int32) by decide), if_pos (show nI 6 = (6 : Int32) from rfl)]
          rw [show m.I 13 t = _ from z.2.2.2.1]
        · have := get_3 m3 (t := t) (by omega)
          rw [sv m3 h] at this
          simp only [f_X4_value, o_0, g_0_0, g_0_1, g_0_2, g_0_3, g_0_4, g_0_5, g_0_6, g_0_7, g_0_8, g_0_9, g_0_10, g_0_11, o_1, g_1_0, g_1_1, g_1_2, g_1_3, g_1_4, g_1_5, g_1_6, g_1_7, g_1_8, g_1_9, r_2, r_3, r_4, r_5, r_6, r_7, r_8, o_9, g_9_0, g_9_1, g_9_2, g_9_3, g_9_4, g_9_5, g_9_6, g_9_7, g_9_8, g_9_9, r_10, r_11, r_12, r_13, r_14, r_15, r_16, o_17, g_17_0, g_17_1, g_17_2, g_17_3, g_17_4, r_18, r_19, r_20, r_22, r_23, r_24, r_25, r_26, r_27, r_28, o_29, g_29_0, g_29_1, g_29_2, g_29_3, g_29_4, g_29_5, g_29_6, g_29_7, g_29_8, g_29_9, r_30, r_31, r_32, r_33, r_34, r_35, r_36, o_37, g_37_0, g_37_1, g_37_2, g_37_3, g_37_4, g_37_5, g_37_6, g_37_7, g_37_8, g_37_9, r_38, r_39, r_40, r_41, r_42, r_43, r_44, o_45, g_45_0, g_45_1, g_45_2, g_45_3, g_45_4, g_45_5, g_45_6, g_45_7, g_45_8, g_45_9, r_46, r_47, r_48, r_49, r_50, r_51, r_52, o_53, g_53_0, g_53_1, g_53_2, g_53_3, g_53_4, g_53_5, g_53_6, g_53_7, g_53_8, g_53_9, r_54, r_55, r_56, r_57, r_58, r_59, r_60, o_61, g_61_0, g_61_1, g_61_2, g_61_3, g_61_4, g_61_5, g_61_6, g_61_7, g_61_8, g_61_9, g_61_10, g_61_11, g_61_12, g_61_13, g_61_14, g_61_15, g_61_16, g_61_17, g_61_18, g_61_19, g_61_20, g_61_21, g_61_22, g_61_23, r_62, r_63, r_64, r_65, r_66, r_67, r_68, r_69, r_70, r_71, r_72, r_73, r_74, r_75, r_76, r_77, Option.bind_some, if_pos (show (3 : Int32) ≤ nI 6 by decide), show nI 6 - (3 : Int32) = 3 from rfl, this]
    · refine W_thr (k := 2) (by decide) ?_ hC b ⟨0, _, ?_, fl hD 2⟩
      · have ne : ∀ i, i ≤ 6 → ¬ w = nI i := fun i hi => sm_ne (by omega) hi hw
        simp only [f_L_triple, f_X3_triple, o_0, Option.bind_some, rt_y hn hC.1 ht, bindT, if_neg (show ¬ w = (0 : Int32) from ne 0 (by omega)), if_neg (show ¬ w = (1 : Int32) from ne 1 (by omega)), if_neg (show ¬ w = (2 : Int32) from ne 2 (by omega)), if_neg (show ¬ w = (3 : Int32) from ne 3 (by omega)), if_neg (show ¬ w = (4 : Int32) from ne 4 (by omega)), if_neg (show ¬ w = (5 : Int32) from ne 5 (by omega)), if_neg (show ¬ w = (6 : Int32) from ne 6 (by omega)), if_true, if_neg (show ¬ (0 : Nat) = 1 by decide)]
      · simp only [f_X4_triple, o_61, Option.bind_some, mt_y hn hD.1 ht, if_neg n0, in_n (show w < 0 ∨ (6 : Int32) < w from hw), if_true, m_fails, bind2]
  · refine W_thr (k := 1) (by decide) ?_ hC b ⟨0, _, ?_, fl hD 1⟩
    · simp only [f_L_triple, f_X3_triple, o_0, Option.bind_some, rt_n hC.1 hx, bindT, if_true]
    · simp only [f_X4_triple, o_61, Option.bind_some, mt_n hn hD.1 hx, if_true, m_fails, bind2]
theorem DD_Y {n : Nat} {s : Nat → Int32} {q : Nat} {P : Nat → Nat → Int32} {tl : Nat} {tx : Nat → Int32} {m m1 : Mem} (h : DD n s q P tl tx m) (f : Fr cY m m1) : DD n s q P tl tx m1 := DD_fr h f (fun a h => by unfold cY at h; omega)
theorem up_Y {m m1 : Mem} (f : Fr cY m m1) : upM m m1 := upM_fr f (fun a h => by unfold cY at h; omega)
theorem k_reasons (hi : INV m) (x : Int32) : okJ (f_L_reasons 0 x 77) (f_X4_reasons 61 x) m := by
  obtain ⟨n, s, M, q, P, PM, tl, tx, hC, hD, b⟩ := INV_out hi
  have hn := b.1.1
  have hT := nT_le hn
  have n0 : ¬ (1 : Int32) = 0 := by decide
  rcases ix_or (show nT n < 2 ^ 31 by omega) x with ⟨t, ht, rfl⟩ | hx
  · have z : m.J 14 t = M t := (hC.2.2.1.2.2.2.1 t (by omega)).2.2.2.2
    refine J_ok (m1 := m) (w := M t) ?_ hC (upC_rf m) hD b (fun m3 hD3 => ?_)
    · simp (disch := omega) only [f_L_reasons, f_X3_reasons, o_0, g_0_0, g_0_1, g_0_2, g_0_3, g_0_4, g_0_5, g_0_6, g_0_7, g_0_8, g_0_9, g_0_10, g_0_11, o_1, g_1_0, g_1_1, g_1_2, g_1_3, g_1_4, g_1_5, g_1_6, g_1_7, g_1_8, g_1_9, r_2, r_3, r_4, r_5, r_6, r_7, r_8, o_9, g_9_0, g_9_1, g_9_2, g_9_3, g_9_4, g_9_5, g_9_6, g_9_7, g_9_8, g_9_9, r_10, r_11, r_12, r_13, r_14, r_15, r_16, o_17, g_17_0, g_17_1, g_17_2, g_17_3, g_17_4, r_18, r_19, r_20, r_22, r_23, r_24, r_25, r_26, r_27, r_28, o_29, g_29_0, g_29_1, g_29_2, g_29_3, g_29_4, g_29_5, g_29_6, g_29_7, g_29_8, g_29_9, r_30, r_31, r_32, r_33, r_34, r_35, r_36, o_37, g_37_0, g_37_1, g_37_2, g_37_3, g_37_4, g_37_5, g_37_6, g_37_7, g_37_8, g_37_9, r_38, r_39, r_40, r_41, r_42, r_43, r_44, o_45, g_45_0, g_45_1, g_45_2, g_45_3, g_45_4, g_45_5, g_45_6, g_45_7, g_45_8, g_45_9, r_46, r_47, r_48, r_49, r_50, r_51, r_52, o_53, g_53_0, g_53_1, g_53_2, g_53_3, g_53_4, g_53_5, g_53_6, g_53_7, g_53_8, g_53_9, r_54, r_55, r_56, r_57, r_58, r_59, r_60, o_61, g_61_0, g_61_1, g_61_2, g_61_3, g_61_4, g_61_5, g_61_6, g_61_7, g_61_8, g_61_9, g_61_10, g_61_11, g_61_12, g_61_13, g_61_14, g_61_15, g_61_16, g_61_17, g_61_18, g_61_19, g_61_20, g_61_21, g_61_22, g_61_23, r_62, r_63, r_64, r_65, r_66, r_67, r_68, r_69, r_70, r_71, r_72, r_73, r_74, r_75, r_76, r_77, Option.bind_some, rt_y hn hC.1 ht, bindT, z, w77]
    · obtain ⟨d1, d2, d3⟩ := fl hD3 0
      obtain ⟨m4, e4, w4, f4⟩ := m_why (m := m3.sI 61 6 0) (M := M) (by rw [d1.2.1]; exact b.1) d1.1
      refine ⟨m4, ?_, DD_Y d1 f4, by rw [(f4.1 61 (by unfold cY; omega)).1]; exact d2, upM_tr d3 (up_Y f4)⟩
      simp (disch := omega) only [f_X4_reasons, o_0, g_0_0, g_0_1, g_0_2, g_0_3, g_0_4, p_0_4, g_0_5, g_0_6, g_0_7, g_0_8, g_0_9, g_0_10, g_0_11, o_1, g_1_0, p_1_0, g_1_1, p_1_1, g_1_2, p_1_2, g_1_3, g_1_4, g_1_5, g_1_6, g_1_7, g_1_8, g_1_9, r_2, w_2, r_3, w_3, r_4, w_4, r_5, w_5, r_6, w_6, r_7, w_7, r_8, w_8, o_9, g_9_0, p_9_0, g_9_1, p_9_1, g_9_2, p_9_2, g_9_3, g_9_4, g_9_5, g_9_6, g_9_7, g_9_8, g_9_9, r_10, w_10, r_11, w_11, r_12, w_12, r_13, w_13, r_14, w_14, r_15, w_15, r_16, w_16, o_17, g_17_0, g_17_1, p_17_1, g_17_2, g_17_3, g_17_4, p_17_4, r_18, w_18, r_19, w_19, r_20, w_20, r_22, w_22, r_23, w_23, r_24, w_24, r_25, w_25, r_26, w_26, r_27, w_27, r_28, w_28, o_29, g_29_0, p_29_0, g_29_1, p_29_1, g_29_2, p_29_2, g_29_3, g_29_4, g_29_5, g_29_6, g_29_7, g_29_8, g_29_9, r_30, w_30, r_31, w_31, r_32, w_32, r_33, w_33, r_34, w_34, r_35, w_35, r_36, w_36, o_37, g_37_0, p_37_0, g_37_1, p_37_1, g_37_2, p_37_2, g_37_3, g_37_4, g_37_5, g_37_6, g_37_7, g_37_8, g_37_9, r_38, w_38, r_39, w_39, r_40, w_40, r_41, w_41, r_42, w_42, r_43, w_43, r_44, w_44, o_45, g_45_0, p_45_0, g_45_1, p_45_1, g_45_2, p_45_2, g_45_3, g_45_4, g_45_5, g_45_6, g_45_7, g_45_8, g_45_9, r_46, w_46, r_47, w_47, r_48, w_48, r_49, w_49, r_50, w_50, r_51, w_51, r_52, w_52, o_53, g_53_0, p_53_0, g_53_1, p_53_1, g_53_2, p_53_2, g_53_3, g_53_4, g_53_5, g_53_6, g_53_7, g_53_8, g_53_9, r_54, w_54, r_55, w_55, r_56, w_56, r_57, w_57, r_58, w_58, r_59, w_59, r_60, w_60, o_61, g_61_0, g_61_1, g_61_2, g_61_3, p_61_3, g_61_4, g_61_5, p_61_5, g_61_6, p_61_6, g_61_7, g_61_8, g_61_9, p_61_9, g_61_10, g_61_11, p_61_11, g_61_12, p_61_12, g_61_13, g_61_14, g_61_15, g_61_16, g_61_17, g_61_18, g_61_19, g_61_20, p_61_20, g_61_21, p_61_21, g_61_22, g_61_23, p_61_23, r_62, w_62, r_63, w_63, r_64, w_64, r_65, w_65, r_66, w_66, r_67, w_67, r_68, w_68, r_69, w_69, r_70, w_70, r_71, w_71, r_72, w_72, r_73, w_73, r_74, w_74, r_75, w_75, r_76, w_76, r_77, w_77, Option.bind_some, mt_y hn hD3.1 ht, if_neg n0, e4, w4 t ht]
  · refine J_thr (k := 1) (by decide) ?_ hC b ⟨(0 : Int32).toInt64, _, ?_, fl hD 1⟩
    · simp only [f_L_reasons, f_X3_reasons, o_0, Option.bind_some, rt_n hC.1 hx, bindT, if_true]
    · simp only [f_X4_reasons, o_61, Option.bind_some, mt_n hn hD.1 hx, if_true, m_fails, bind2]
theorem k_behind (hi : INV m) (x : Int32) : okJ (f_L_behind 0 x 77) (f_X4_behind 61 x) m := by
  obtain ⟨n, s, M, q, P, PM, tl, tx, hC, hD, b⟩ := INV_out hi
  have hn := b.1.1
  have hT := nR_le hn
  have n0 : ¬ (1 : Int32) = 0 := by decide
  rcases ix_or (show nR n < 2 ^ 31 by omega) x with ⟨r, hr, rfl⟩ | hx
  · refine J_ok (m1 := m) (w := orF (fun w => M (fac n r w)) 6) ?_ hC (upC_rf m) hD b (fun m3 hD3 => ?_)
    · simp only [f_L_behind, f_X3_behind, o_0, Option.bind_some, rr_y hn hC.1 hr, bindT, c_why hn hC.1 hC.2.2.1 hr, w77]
    · obtain ⟨d1, d2, d3⟩ := fl hD3 0
      obtain ⟨m4, e4, w4, f4⟩ := m_why (m := m3.sI 61 6 0) (M := M) (by rw [d1.2.1]; exact b.1) d1.1
      have D4 := DD_Y d1 f4
      obtain ⟨m5, e5, f5⟩ := m_wr hn D4.1 w4 hr
      have f5y : Fr cY m4 m5 := Fr_w (d := cY) f5 (fun a h => by unfold cK at h; unfold cY; omega)
      refine ⟨m5, ?_, DD_Y D4 f5y, by rw [(f5y.1 61 (by unfold cY; omega)).1, (f4.1 61 (by unfold cY; omega)).1]; exact d2, upM_tr d3 (upM_tr (up_Y f4) (up_Y f5y))⟩
      simp only [f_X4_behind, o_0, g_0_0, g_0_1, g_0_2, g_0_3, g_0_4, p_0_4, g_0_5, g_0_6, g_0_7, g_0_8, g_0_9, g_0_10, g_0_11, o_1, g_1_0, p_1_0, g_1_1, p_1_1, g_1_2, p_1_2, g_1_3, g_1_4, g_1_5, g_1_6, g_1_7, g_1_8, g_1_9, r_2, w_2, r_3, w_3, r_4, w_4, r_5, w_5, r_6, w_6, r_7, w_7, r_8, w_8, o_9, g_9_0, p_9_0, g_9_1, p_9_1, g_9_2, p_9_2, g_9_3, g_9_4, g_9_5, g_9_6, g_9_7, g_9_8, g_9_9, r_10, w_10, r_11, w_11, r_12, w_12, r_13, w_13, r_14, w_14, r_15, w_15, r_16, w_16, o_17, g_17_0, g_17_1, p_17_1, g_17_2, g_17_3, g_17_4, p_17_4, r_18, w_18, r_19, w_19, r_20, w_20, r_22, w_22, r_23, w_23, r_24, w_24, r_25, w_25, r_26, w_26, r_27, w_27, r_28, w_28, o_29, g_29_0, p_29_0, g_29_1, p_29_1, g_29_2, p_29_2, g_29_3, g_29_4, g_29_5, g_29_6, g_29_7, g_29_8, g_29_9, r_30, w_30, r_31, w_31, r_32, w_32, r_33, w_33, r_34, w_34, r_35, w_35, r_36, w_36, o_37, g_37_0, p_37_0, g_37_1, p_37_1, g_37_2, p_37_2, g_37_3, g_37_4, g_37_5, g_37_6, g_37_7, g_37_8, g_37_9, r_38, w_38, r_39, w_39, r_40, w_40, r_41, w_41, r_42, w_42, r_43, w_43, r_44, w_44, o_45, g_45_0, p_45_0, g_45_1, p_45_1, g_45_2, p_45_2, g_45_3, g_45_4, g_45_5, g_45_6, g_45_7, g_45_8, g_45_9, r_46, w_46, r_47, w_47, r_48, w_48, r_49, w_49, r_50, w_50, r_51, w_51, r_52, w_52, o_53, g_53_0, p_53_0, g_53_1, p_53_1, g_53_2, p_53_2, g_53_3, g_53_4, g_53_5, g_53_6, g_53_7, g_53_8, g_53_9, r_54, w_54, r_55, w_55, r_56, w_56, r_57, w_57, r_58, w_58, r_59, w_59, r_60, w_60, o_61, g_61_0, g_61_1, g_61_2, g_61_3, p_61_3, g_61_4, g_61_5, p_61_5, g_61_6, p_61_6, g_61_7, g_61_8, g_61_9, p_61_9, g_61_10, g_61_11, p_61_11, g_61_12, p_61_12, g_61_13, g_61_14, g_61_15, g_61_16, g_61_17, g_61_18, g_61_19, g_61_20, p_61_20, g_61_21, p_61_21, g_61_22, g_61_23, p_61_23, r_62, w_62, r_63, w_63, r_64, w_64, r_65, w_65, r_66, w_66, r_67, w_67, r_68, w_68, r_69, w_69, r_70, w_70, r_71, w_71, r_72, w_72, r_73, w_73, r_74, w_74, r_75, w_75, r_76, w_76, r_77, w_77, Option.bind_some, mr_y hn hD3.1 hr, if_neg n0, e4, e5, bind2]
  · refine J_thr (k := 1) (by decide) ?_ hC b ⟨(0 : Int32).toInt64, _, ?_, fl hD 1⟩
    · simp only [f_L_behind, f_X3_behind, o_0, Option.bind_some, rr_n hC.1 hx, bindT, if_true]
    · simp only [f_X4_behind, o_61, Option.bind_some, mr_n hn hD.1 hx, if_true, m_fails, bind2]
end Readers2
