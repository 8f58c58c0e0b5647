/-! begin and undo -/
/-- a row whose first k triples are unknown -/
def clq (r : Nat → Int32) (k j : Nat) : Int32 := if 3 ≤ j ∧ j < 3 + 4 * k then (if (j - 3) % 4 = 1 then 0 else -100) else r j
theorem clq_s (r : Nat → Int32) (k : Nat) : clr k (clq r k) = clq r (k + 1) := by
  funext j
  rw [clr_g]
  unfold clq
  by_cases c : 3 ≤ j ∧ j < 3 + 4 * (k + 1)
  · rw [if_pos c]
    by_cases d : 3 ≤ j ∧ j < 3 + 4 * k
    · rw [if_neg (by omega), if_neg (by omega), if_pos d]
    · by_cases e : j = 3 + 4 * k + 1
      · rw [if_neg (by omega), if_pos e, if_pos (by omega)]
      · rw [if_pos (by omega), if_neg (by omega)]
  · rw [if_neg c, if_neg (by omega), if_neg (by omega), if_neg (by omega)]
theorem clq_0 (r : Nat → Int32) : clq r 0 = r := by
  funext j
  unfold clq
  rw [if_neg (by omega)]
/-- the row of a beginning -/
def bgR (n : Nat) (s : Nat → Int32) (k : Nat) : Int32 := if k = 0 then nI n else if k = 2 then -100 else if 3 ≤ k ∧ k < 227 then (if (k - 3) % 4 = 1 then 0 else -100) else if 227 ≤ k ∧ k < 243 then -100 else s k
theorem RS_p {m : Mem} {s : Nat → Int32} {M : Nat → Int64} (h : RS 9 m s M) (x : Int32) : RS 9 (m.sI 9 0 x) (upd s 0 x) M ∧ Fr (cS 9) m (m.sI 9 0 x) := by
  refine ⟨⟨?_, ?_, ?_, fun u hu => ?_, fun p hp => ?_⟩, Fr_sI (Fr_rf _ m) ⟨by omega, by omega⟩⟩
  · show upd (m.I 9) 0 x 0 = upd s 0 x 0
    rw [upd_g, upd_g, if_pos rfl, if_pos rfl]
  · show upd (m.I 9) 0 x 1 = upd s 0 x 1
    rw [upd_g, upd_g, if_neg (by omega), if_neg (by omega)]
    exact h.2.1
  · show upd (m.I 9) 0 x 2 = upd s 0 x 2
    rw [upd_g, upd_g, if_neg (by omega), if_neg (by omega)]
    exact h.2.2.1
  · rw [upd_g, upd_g, upd_g, upd_g, if_neg (by omega), if_neg (by omega), if_neg (by omega), if_neg (by omega)]
    exact h.2.2.2.1 u hu
  · rw [upd_g, upd_g, if_neg (by omega), if_neg (by omega)]
    exact h.2.2.2.2 p hp
theorem c_unk {m : Mem} {s : Nat → Int32} {M : Nat → Int64} (hs : RS 9 m s M) : ∃ m1, l_X2_clearFor_13 9 FU 0 (HH m) = some (HH m1) ∧ RS 9 m1 (clq s 56) (fun _ => 0) ∧ Fr (cS 9) m m1 := by
  have key : ∃ b, l_X2_clearFor_13 9 FU (nI 0) (HH m) = some b ∧ ∃ m1, b = HH m1 ∧ RS 9 m1 (clq s 56) (fun t => if t < 56 then 0 else M t) ∧ Fr (cS 9) m m1 := by
    refine loopR (fun fuel (a : Int32 × Hp) => l_X2_clearFor_13 9 fuel a.1 a.2) (fun k a => ∃ m1, a = (nI k, HH m1) ∧ RS 9 m1 (clq s k) (fun t => if t < k then 0 else M t) ∧ Fr (cS 9) m m1) _ 56 ?_ ?_ 56 0 (nI 0, HH m) FU (by omega) (FUx (by omega)) ⟨m, rfl, RS_cg hs (fun k _ => by rw [clq_0]) (fun t _ => if_neg (Nat.not_lt_zero t)), Fr_rf _ m⟩
    · rintro k a fuel hk ⟨m1, rfl, hr, hf⟩
      obtain ⟨m2, e2, r2, f2⟩ := c9_unknown hr (t := k) hk
      refine Or.inl ⟨(nI (k + 1), HH m2), ?_, m2, rfl, ?_, Fr_tr hf f2⟩
      · simp (disch := omega) only [l_X2_clearFor_13, le56, if_neg (show ¬ 56 ≤ k by omega), Option.bind_some, e2, add1]
      · refine RS_cg r2 (fun j _ => by rw [clq_s]) (fun t ht => ?_)
        rw [updL_g]
        by_cases c : t = k
        · rw [if_pos c, if_pos (by omega)]
        · rw [if_neg c]
          exact ifI ⟨fun h => by omega, fun h => by omega⟩
    · rintro a fuel ⟨m1, rfl, hr, hf⟩
      refine ⟨_, ?_, m1, rfl, hr, hf⟩
      simp (disch := omega) only [l_X2_clearFor_13, le56, if_pos (Nat.le_refl 56)]
  obtain ⟨b, e, m1, rfl, hr, hf⟩ := key
  exact ⟨m1, e, RS_cg hr (fun _ _ => rfl) (fun t ht => (if_pos ht).symm), hf⟩
theorem c_fill15 (m : Mem) (v : Int32) : ∃ m1, f_J7_fill_53178 15 v (HH m) = some (HH m1) ∧ (∀ p, p < 8 → m1.I 15 p = v) ∧ Fr (cC 15) m m1 := by
  have key : ∃ b, l_J7_fill_53178_5 15 v (nI 8) FU (nI 0) (HH m) = some b ∧ ∃ m1, b = HH m1 ∧ (∀ p, p < 8 → m1.I 15 p = v) ∧ Fr (cC 15) m m1 := by
    refine loopR (fun fuel (a : Int32 × Hp) => l_J7_fill_53178_5 15 v (nI 8) fuel a.1 a.2) (fun k a => ∃ m1, a = (nI k, HH m1) ∧ (∀ p, p < k → m1.I 15 p = v) ∧ Fr (cC 15) m m1) _ 8 ?_ ?_ 8 0 (nI 0, HH m) FU (by omega) (FUx (by omega)) ⟨m, rfl, fun p hp => absurd hp (Nat.not_lt_zero p), Fr_rf _ m⟩
    · rintro k a fuel hk ⟨m1, rfl, hv, hf⟩
      refine Or.inl ⟨(nI (k + 1), HH (m1.sI 15 k v)), ?_, _, rfl, fun p hp => ?_, Fr_sI hf rfl⟩
      · simp (disch := omega) only [l_J7_fill_53178_5, leN, if_neg (show ¬ 8 ≤ k by omega), o_0, g_0_0, g_0_1, g_0_2, g_0_3, g_0_4, p_0_4, g_0_5, g_0_6, g_0_7, g_0_8, g_0_9, g_0_10, g_0_11, o_1, g_1_0, p_1_0, g_1_1, p_1_1, g_1_2, p_1_2, g_1_3, g_1_4, g_1_5, g_1_6, g_1_7, g_1_8, g_1_9, r_2, w_2, r_3, w_3, r_4, w_4, r_5, w_5, r_6, w_6, r_7, w_7, r_8, w_8, o_9, g_9_0, p_9_0, g_9_1, p_9_1, g_9_2, p_9_2, g_9_3, g_9_4, g_9_5, g_9_6, g_9_7, g_9_8, g_9_9, r_10, w_10, r_11, w_11, r_12, w_12, r_13, w_13, r_14, w_14, r_15, w_15, r_16, w_16, o_17, g_17_0, g_17_1, p_17_1, g_17_2, g_17_3, g_17_4, p_17_4, r_18, w_18, r_19, w_19, r_20, w_20, r_22, w_22, r_23, w_23, r_24, w_24, r_25, w_25, r_26, w_26, r_27, w_27, r_28, w_28, o_29, g_29_0, p_29_0, g_29_1, p_29_1, g_29_2, p_29_2, g_29_3, g_29_4, g_29_5, g_29_6, g_29_7, g_29_8, g_29_9, r_30, w_30, r_31, w_31, r_32, w_32, r_33, w_33, r_34, w_34, r_35, w_35, r_36, w_36, o_37, g_37_0, p_37_0, g_37_1, p_37_1, g_37_2, p_37_2, g_37_3, g_37_4, g_37_5, g_37_6, g_37_7, g_37_8, g_37_9, r_38, w_38, r_39, w_39, r_40, w_40, r_41, w_41, r_42, w_42, r_43, w_43, r_44, w_44, o_45, g_45_0, p_45_0, g_45_1, p_45_1, g_45_2, p_45_2, g_45_3, g_45_4, g_45_5, g_45_6, g_45_7, g_45_8, g_45_9, r_46, w_46, r_47, w_47, r_48, w_48, r_49, w_49, r_50, w_50, r_51, w_51, r_52, w_52, o_53, g_53_0, p_53_0, g_53_1, p_53_1, g_53_2, p_53_2, g_53_3, g_53_4, g_53_5, g_53_6, g_53_7, g_53_8, g_53_9, r_54, w_54, r_55, w_55, r_56, w_56, r_57, w_57, r_58, w_58, r_59, w_59, r_60, w_60, o_61, g_61_0, g_61_1, g_61_2, g_61_3, p_61_3, g_61_4, g_61_5, p_61_5, g_61_6, p_61_6, g_61_7, g_61_8, g_61_9, p_61_9, g_61_10, g_61_11, p_61_11, g_61_12, p_61_12, g_61_13, g_61_14, g_61_15, g_61_16, g_61_17, g_61_18, g_61_19, g_61_20, p_61_20, g_61_21, p_61_21, g_61_22, g_61_23, p_61_23, r_62, w_62, r_63, w_63, r_64, w_64, r_65, w_65, r_66, w_66, r_67, w_67, r_68, w_68, r_69, w_69, r_70, w_70, r_71, w_71, r_72, w_72, r_73, w_73, r_74, w_74, r_75, w_75, r_76, w_76, r_77, w_77, Option.bind_some, add1]
      · rw [sI_at]
        by_cases c : p = k
        · rw [if_pos c]
        · rw [if_neg c]
          exact hv p (by omega)
    · rintro a fuel ⟨m1, rfl, hv, hf⟩
      refine ⟨_, ?_, m1, rfl, hv, hf⟩
      simp (disch := omega) only [l_J7_fill_53178_5, leN, if_pos (Nat.le_refl 8)]
  obtain ⟨b, e, m1, rfl, hv, hf⟩ := key
  refine ⟨m1, ?_, hv, hf⟩
  unfold f_J7_fill_53178
  rw [show aN (HH m) 15 = some (nI 8) from rfl, Option.bind_some, show l_J7_fill_53178_5 15 v (nI 8) FU 0 (HH m) = _ from e, Option.bind_some]
theorem c_fill16 (m : Mem) (v : Int32) : ∃ m1, f_J7_fill_53178 16 v (HH m) = some (HH m1) ∧ (∀ p, p < 8 → m1.I 16 p = v) ∧ Fr (cC 16) m m1 := by
  have key : ∃ b, l_J7_fill_53178_5 16 v (nI 8) FU (nI 0) (HH m) = some b ∧ ∃ m1, b = HH m1 ∧ (∀ p, p < 8 → m1.I 16 p = v) ∧ Fr (cC 16) m m1 := by
    refine loopR (fun fuel (a : Int32 × Hp) => l_J7_fill_53178_5 16 v (nI 8) fuel a.1 a.2) (fun k a => ∃ m1, a = (nI k, HH m1) ∧ (∀ p, p < k → m1.I 16 p = v) ∧ Fr (cC 16) m m1) _ 8 ?_ ?_ 8 0 (nI 0, HH m) FU (by omega) (FUx (by omega)) ⟨m, rfl, fun p hp => absurd hp (Nat.not_lt_zero p), Fr_rf _ m⟩
    · rintro k a fuel hk ⟨m1, rfl, hv, hf⟩
      refine Or.inl ⟨(nI (k + 1), HH (m1.sI 16 k v)), ?_, _, rfl, fun p hp => ?_, Fr_sI hf rfl⟩
      · simp (disch := omega) only [l_J7_fill_53178_5, leN, if_neg (show ¬ 8 ≤ k by omega), o_0, g_0_0, g_0_1, g_0_2, g_0_3, g_0_4, p_0_4, g_0_5, g_0_6, g_0_7, g_0_8, g_0_9, g_0_10, g_0_11, o_1, g_1_0, p_1_0, g_1_1, p_1_1, g_1_2, p_1_2, g_1_3, g_1_4, g_1_5, g_1_6, g_1_7, g_1_8, g_1_9, r_2, w_2, r_3, w_3, r_4, w_4, r_5, w_5, r_6, w_6, r_7, w_7, r_8, w_8, o_9, g_9_0, p_9_0, g_9_1, p_9_1, g_9_2, p_9_2, g_9_3, g_9_4, g_9_5, g_9_6, g_9_7, g_9_8, g_9_9, r_10, w_10, r_11, w_11, r_12, w_12, r_13, w_13, r_14, w_14, r_15, w_15, r_16, w_16, o_17, g_17_0, g_17_1, p_17_1, g_17_2, g_17_3, g_17_4, p_17_4, r_18, w_18, r_19, w_19, r_20, w_20, r_22, w_22, r_23, w_23, r_24, w_24, r_25, w_25, r_26, w_26, r_27, w_27, r_28, w_28, o_29, g_29_0, p_29_0, g_29_1, p_29_1, g_29_2, p_29_2, g_29_3, g_29_4, g_29_5, g_29_6, g_29_7, g_29_8, g_29_9, r_30, w_30, r_31, w_31, r_32, w_32, r_33, w_33, r_34, w_34, r_35, w_35, r_36, w_36, o_37, g_37_0, p_37_0, g_37_1, p_37_1, g_37_2, p_37_2, g_37_3, g_37_4, g_37_5, g_37_6, g_37_7, g_37_8, g_37_9, r_38, w_38, r_39, w_39, r_40, w_40, r_41, w_41, r_42, w_42, r_43, w_43, r_44, w_44, o_45, g_45_0, p_45_0, g_45_1, p_45_1, g_45_2, p_45_2, g_45_3, g_45_4, g_45_5, g_45_6, g_45_7, g_45_8, g_45_9, r_46, w_46, r_47, w_47, r_48, w_48, r_49, w_49, r_50, w_50, r_51, w_51, r_52, w_52, o_53, g_53_0, p_53_0, g_53_1, p_53_1, g_53_2, p_53_2, g_53_3, g_53_4, g_53_5, g_53_6, g_53_7, g_53_8, g_53_9, r_54, w_54, r_55, w_55, r_56, w_56, r_57, w_57, r_58, w_58, r_59, w_59, r_60, w_60, o_61, g_61_0, g_61_1, g_61_2, g_61_3, p_61_3, g_61_4, g_61_5, p_61_5, g_61_6, p_61_6, g_61_7, g_61_8, g_61_9, p_61_9, g_61_10, g_61_11, p_61_11, g_61_12, p_61_12, g_61_13, g_61_14, g_61_15, g_61_16, g_61_17, g_61_18, g_61_19, g_61_20, p_61_20, g_61_21, p_61_21, g_61_22, g_61_23, p_61_23, r_62, w_62, r_63, w_63, r_64, w_64, r_65, w_65, r_66, w_66, r_67, w_67, r_68, w_68, r_69, w_69, r_70, w_70, r_71, w_71, r_72, w_72, r_73, w_73, r_74, w_74, r_75, w_75, r_76, w_76, r_77, w_77, Option.bind_some, add1]
      · rw [sI_at]
        by_cases c : p = k
        · rw [if_pos c]
        · rw [if_neg c]
          exact hv p (by omega)
    · rintro a fuel ⟨m1, rfl, hv, hf⟩
      refine ⟨_, ?_, m1, rfl, hv, hf⟩
      simp (disch := omega) only [l_J7_fill_53178_5, leN, if_pos (Nat.le_refl 8)]
  obtain ⟨b, e, m1, rfl, hv, hf⟩ := key
  refine ⟨m1, ?_, hv, hf⟩
  unfold f_J7_fill_53178
  rw [show aN (HH m) 16 = some (nI 8) from rfl, Option.bind_some, show l_J7_fill_53178_5 16 v (nI 8) FU 0 (HH m) = _ from e, Option.bind_some]
theorem c_clear {m : Mem} {s : Nat → Int32} {M : Nat → Int64} (hs : RS 9 m s M) (n : Nat) : ∃ m1, f_X2_clearFor 9 (nI n) (HH m) = some (HH m1) ∧ RS 9 m1 (bgR n s) (fun _ => 0) ∧ Fr (cS 9) m m1 := by
  obtain ⟨r1, f1⟩ := RS_p hs (nI n)
  obtain ⟨r2, f2⟩ := c9_clash r1 (-100)
  obtain ⟨m3, e3, r3, f3⟩ := c_unk r2
  obtain ⟨m4, e4, v4, f4⟩ := c_fill15 m3 (-100)
  obtain ⟨m5, e5, v5, f5⟩ := c_fill16 m4 (-100)
  have f4c : Fr (cS 9) m3 m4 := Fr_w (d := cS 9) f4 (fun a h => by unfold cC at h; unfold cS; omega)
  have f5c : Fr (cS 9) m4 m5 := Fr_w (d := cS 9) f5 (fun a h => by unfold cC at h; unfold cS; omega)
  refine ⟨m5, ?_, ?_, Fr_tr f1 (Fr_tr f2 (Fr_tr f3 (Fr_tr f4c f5c)))⟩
  · simp only [f_X2_clearFor, o_0, g_0_0, g_0_1, g_0_2, g_0_3, g_0_4, p_0_4, g_0_5, g_0_6, g_0_7, g_0_8, g_0_9, g_0_10, g_0_11, o_1, g_1_0, p_1_0, g_1_1, p_1_1, g_1_2, p_1_2, g_1_3, g_1_4, g_1_5, g_1_6, g_1_7, g_1_8, g_1_9, r_2, w_2, r_3, w_3, r_4, w_4, r_5, w_5, r_6, w_6, r_7, w_7, r_8, w_8, o_9, g_9_0, p_9_0, g_9_1, p_9_1, g_9_2, p_9_2, g_9_3, g_9_4, g_9_5, g_9_6, g_9_7, g_9_8, g_9_9, r_10, w_10, r_11, w_11, r_12, w_12, r_13, w_13, r_14, w_14, r_15, w_15, r_16, w_16, o_17, g_17_0, g_17_1, p_17_1, g_17_2, g_17_3, g_17_4, p_17_4, r_18, w_18, r_19, w_19, r_20, w_20, r_22, w_22, r_23, w_23, r_24, w_24, r_25, w_25, r_26, w_26, r_27, w_27, r_28, w_28, o_29, g_29_0, p_29_0, g_29_1, p_29_1, g_29_2, p_29_2, g_29_3, g_29_4, g_29_5, g_29_6, g_29_7, g_29_8, g_29_9, r_30, w_30, r_31, w_31, r_32, w_32, r_33, w_33, r_34, w_34, r_35, w_35, r_36, w_36, o_37, g_37_0, p_37_0, g_37_1, p_37_1, g_37_2, p_37_2, g_37_3, g_37_4, g_37_5, g_37_6, g_37_7, g_37_8, g_37_9, r_38, w_38, r_39, w_39, r_40, w_40, r_41, w_41, r_42, w_42, r_43, w_43, r_44, w_44, o_45, g_45_0, p_45_0, g_45_1, p_45_1, g_45_2, p_45_2, g_45_3, g_45_4, g_45_5, g_45_6, g_45_7, g_45_8, g_45_9, r_46, w_46, r_47, w_47, r_48, w_48, r_49, w_49, r_50, w_50, r_51, w_51, r_52, w_52, o_53, g_53_0, p_53_0, g_53_1, p_53_1, g_53_2, p_53_2, g_53_3, g_53_4, g_53_5, g_53_6, g_53_7, g_53_8, g_53_9, r_54, w_54, r_55, w_55, r_56, w_56, r_57, w_57, r_58, w_58, r_59, w_59, r_60, w_60, o_61, g_61_0, g_61_1, g_61_2, g_61_3, p_61_3, g_61_4, g_61_5, p_61_5, g_61_6, p_61_6, g_61_7, g_61_8, g_61_9, p_61_9, g_61_10, g_61_11, p_61_11, g_61_12, p_61_12, g_61_13, g_61_14, g_61_15, g_61_16, g_61_17, g_61_18, g_61_19, g_61_20, p_61_20, g_61_21, p_61_21, g_61_22, g_61_23, p_61_23, r_62, w_62, r_63, w_63, r_64, w_64, r_65, w_65, r_66, w_66, r_67, w_67, r_68, w_68, r_69, w_69, r_70, w_70, r_71, w_71, r_72, w_72, r_73, w_73, r_74, w_74, r_75, w_75, r_76, w_76, r_77, w_77, Option.bind_some, e3, e4, e5]
  · have o : ∀ x, x ≠ 15 → x ≠ 16 → m5.I x = m3.I x ∧ m5.J x = m3.J x := fun x h1 h2 => ⟨((f5.1 x (by unfold cC; omega)).1).trans (f4.1 x (by unfold cC; omega)).1, ((f5.1 x (by unfold cC; omega)).2).trans (f4.1 x (by unfold cC; omega)).2⟩
    obtain ⟨a0, a1, a2, a3, a4⟩ := r3
    have q : ∀ k, k < 227 → k ≠ 0 → k ≠ 2 → bgR n s k = clq (upd (upd s 0 (nI n)) 2 (-100)) 56 k := by
      intro k hk h0 h2
      unfold bgR clq
      rw [if_neg h0, if_neg h2]
      by_cases c : 3 ≤ k ∧ k < 227
      · rw [if_pos c, if_pos (show 3 ≤ k ∧ k < 3 + 4 * 56 by omega)]
      · rw [if_neg c, if_neg (by omega), if_neg (by omega), upd_g, if_neg h2, upd_g, if_neg h0]
    refine ⟨?_, ?_, ?_, fun t ht => ?_, fun p hp => ⟨?_, ?_⟩⟩
    · rw [(o 9 (by omega) (by omega)).1, a0]
      rfl
    · rw [(o 9 (by omega) (by omega)).1, a1, q 1 (by omega) (by omega) (by omega)]
    · rw [(o 9 (by omega) (by omega)).1, a2]
      rfl
    · rw [(o (9 + 1) (by omega) (by omega)).1, (o (9 + 2) (by omega) (by omega)).1, (o (9 + 3) (by omega) (by omega)).1, (o (9 + 4) (by omega) (by omega)).1, (o (9 + 5) (by omega) (by omega)).2, q _ (by omega) (by omega) (by omega), q _ (by omega) (by omega) (by omega), q _ (by omega) (by omega) (by omega), q _ (by omega) (by omega) (by omega)]
      exact a3 t ht
    · have e : m5.I 15 p = -100 := by rw [(f5.1 15 (by unfold cC; omega)).1]; exact v4 p hp
      show m5.I 15 p = _
      rw [e]
      unfold bgR
      rw [if_neg (by omega), if_neg (by omega), if_neg (by omega), if_pos (by omega)]
    · show m5.I 16 p = _
      rw [v5 p hp]
      unfold bgR
      rw [if_neg (by omega), if_neg (by omega), if_neg (by omega), if_pos (by omega)]
/-! the reference begins -/
theorem m_unkn (m : Mem) : l_X4_begins_2 61 FU 0 (HH m) = some (HH (m.rI 62 (clq (m.I 62) 56))) := by
  have key : ∃ b, l_X4_begins_2 61 FU (nI 0) (HH m) = some b ∧ b = HH (m.rI 62 (clq (m.I 62) 56)) := by
    refine loopR (fun fuel (a : Int32 × Hp) => l_X4_begins_2 61 fuel a.1 a.2) (fun k a => a = (nI k, HH (m.rI 62 (clq (m.I 62) k)))) _ 56 ?_ ?_ 56 0 (nI 0, HH m) FU (by omega) (FUx (by omega)) (by rw [clq_0, rI_id])
    · rintro k a fuel hk rfl
      refine Or.inl ⟨(nI (k + 1), HH (m.rI 62 (clq (m.I 62) (k + 1)))), ?_, rfl⟩
      simp (disch := omega) only [l_X4_begins_2, le56, if_neg (show ¬ 56 ≤ k by omega), m_clears, rI_I, rI_rI, clq_s, Option.bind_some, add_1]
    · rintro a fuel rfl
      refine ⟨_, ?_, rfl⟩
      simp (disch := omega) only [l_X4_begins_2, le56, if_pos (Nat.le_refl 56)]
  obtain ⟨b, e, rfl⟩ := key
  exact e
theorem m_unpl (m : Mem) : l_X4_begins_23 61 FU 227 (HH m) = some (HH (m.rI 62 (fun j => if 227 ≤ j ∧ j < 243 then -100 else m.I 62 j))) := by
  have key : ∃ b, l_X4_begins_23 61 FU (nI (227 + 0)) (HH m) = some b ∧ b = HH (m.rI 62 (fun j => if 227 ≤ j ∧ j < 243 then -100 else m.I 62 j)) := by
    refine loopR (fun fuel (a : Int32 × Hp) => l_X4_begins_23 61 fuel a.1 a.2) (fun k a => a = (nI (227 + k), HH (m.rI 62 (fun j => if 227 ≤ j ∧ j < 227 + k then -100 else m.I 62 j)))) _ 16 ?_ ?_ 16 0 (nI (227 + 0), HH m) FU (by omega) (FUx (by omega)) ?_
    · rintro k a fuel hk rfl
      refine Or.inl ⟨(nI (227 + (k + 1)), HH (m.rI 62 (fun j => if 227 ≤ j ∧ j < 227 + (k + 1) then -100 else m.I 62 j))), ?_, rfl⟩
      have er : upd (fun j => if 227 ≤ j ∧ j < 227 + k then -100 else m.I 62 j) (227 + k) (-100) = fun j => if 227 ≤ j ∧ j < 227 + (k + 1) then -100 else m.I 62 j := by
        funext j
        rw [upd_g]
        by_cases c : j = 227 + k
        · rw [if_pos c, if_pos (by omega)]
        · rw [if_neg c]
          by_cases d : 227 ≤ j ∧ j < 227 + k
          · rw [if_pos d, if_pos (by omega)]
          · rw [if_neg d, if_neg (by omega)]
      simp (disch := omega) only [l_X4_begins_23, le243, if_neg (show ¬ 243 ≤ 227 + k by omega), o_0, g_0_0, g_0_1, g_0_2, g_0_3, g_0_4, p_0_4, g_0_5, g_0_6, g_0_7, g_0_8, g_0_9, g_0_10, g_0_11, o_1, g_1_0, p_1_0, g_1_1, p_1_1, g_1_2, p_1_2, g_1_3, g_1_4, g_1_5, g_1_6, g_1_7, g_1_8, g_1_9, r_2, w_2, r_3, w_3, r_4, w_4, r_5, w_5, r_6, w_6, r_7, w_7, r_8, w_8, o_9, g_9_0, p_9_0, g_9_1, p_9_1, g_9_2, p_9_2, g_9_3, g_9_4, g_9_5, g_9_6, g_9_7, g_9_8, g_9_9, r_10, w_10, r_11, w_11, r_12, w_12, r_13, w_13, r_14, w_14, r_15, w_15, r_16, w_16, o_17, g_17_0, g_17_1, p_17_1, g_17_2, g_17_3, g_17_4, p_17_4, r_18, w_18, r_19, w_19, r_20, w_20, r_22, w_22, r_23, w_23, r_24, w_24, r_25, w_25, r_26, w_26, r_27, w_27, r_28, w_28, o_29, g_29_0, p_29_0, g_29_1, p_29_1, g_29_2, p_29_2, g_29_3, g_29_4, g_29_5, g_29_6, g_29_7, g_29_8, g_29_9, r_30, w_30, r_31, w_31, r_32, w_32, r_33, w_33, r_34, w_34, r_35, w_35, r_36, w_36, o_37, g_37_0, p_37_0, g_37_1, p_37_1, g_37_2, p_37_2, g_37_3, g_37_4, g_37_5, g_37_6, g_37_7, g_37_8, g_37_9, r_38, w_38, r_39, w_39, r_40, w_40, r_41, w_41, r_42, w_42, r_43, w_43, r_44, w_44, o_45, g_45_0, p_45_0, g_45_1, p_45_1, g_45_2, p_45_2, g_45_3, g_45_4, g_45_5, g_45_6, g_45_7, g_45_8, g_45_9, r_46, w_46, r_47, w_47, r_48, w_48, r_49, w_49, r_50, w_50, r_51, w_51, r_52, w_52, o_53, g_53_0, p_53_0, g_53_1, p_53_1, g_53_2, p_53_2, g_53_3, g_53_4, g_53_5, g_53_6, g_53_7, g_53_8, g_53_9, r_54, w_54, r_55, w_55, r_56, w_56, r_57, w_57, r_58, w_58, r_59, w_59, r_60, w_60, o_61, g_61_0, g_61_1, g_61_2, g_61_3, p_61_3, g_61_4, g_61_5, p_61_5, g_61_6, p_61_6, g_61_7, g_61_8, g_61_9, p_61_9, g_61_10, g_61_11, p_61_11, g_61_12, p_61_12, g_61_13, g_61_14, g_61_15, g_61_16, g_61_17, g_61_18, g_61_19, g_61_20, p_61_20, g_61_21, p_61_21, g_61_22, g_61_23, p_61_23, r_62, w_62, r_63, w_63, r_64, w_64, r_65, w_65, r_66, w_66, r_67, w_67, r_68, w_68, r_69, w_69, r_70, w_70, r_71, w_71, r_72, w_72, r_73, w_73, r_74, w_74, r_75, w_75, r_76, w_76, r_77, w_77, Option.bind_some, rI_sI, er, add_1]
      rfl
    · rintro a fuel rfl
      refine ⟨_, ?_, rfl⟩
      simp (disch := omega) only [l_X4_begins_23, le243, if_pos (show 243 ≤ 227 + 16 by omega)]
    · have : (fun j => if 227 ≤ j ∧ j < 227 + 0 then (-100 : Int32) else m.I 62 j) = m.I 62 := by
        funext j
        rw [if_neg (by omega)]
      rw [this, rI_id]
  obtain ⟨b, e, rfl⟩ := key
  exact e
theorem bgR_e (n : Nat) (s : Nat → Int32) : upd (upd (fun j => if 227 ≤ j ∧ j < 243 then -100 else clq s 56 j) 0 (nI n)) 2 (-100) = bgR n s := by
  funext k
  unfold bgR clq
  rw [upd_g, upd_g]
  by_cases c2 : k = 2
  · rw [if_pos c2, if_neg (by omega), if_pos c2]
  · rw [if_neg c2]
    by_cases c0 : k = 0
    · rw [if_pos c0, if_pos c0]
    · rw [if_neg c0, if_neg c0, if_neg c2]
      by_cases d : 227 ≤ k ∧ k < 243
      · rw [if_pos d, if_neg (by omega), if_pos d]
      · rw [if_neg d]
        by_cases e : 3 ≤ k ∧ k < 227
        · rw [if_pos (show 3 ≤ k ∧ k < 3 + 4 * 56 by omega), if_pos e]
        · rw [if_neg (show ¬ (3 ≤ k ∧ k < 3 + 4 * 56) by omega), if_neg e, if_neg d]
theorem m_begins {n : Nat} (hn : n38 n) (m : Mem) : ∃ m1, f_X4_begins 61 (nI n) (HH m) = some (HH m1) ∧ LM n m1 ∧ fN (m.rI 62 (bgR n (m.I 62))) m1 := by
  obtain ⟨m0, em0⟩ : ∃ m0, m0 = m.rI 62 (bgR n (m.I 62)) := ⟨_, rfl⟩
  obtain ⟨m1, e1, L1, f1⟩ := m_lays hn (m := m0) (by rw [em0, rI_I]; rfl)
  refine ⟨m1, ?_, L1, by rw [← em0]; exact f1⟩
  have w0 := w_62 (m.rI 62 (fun j => if 227 ≤ j ∧ j < 243 then -100 else clq (m.I 62) 56 j)) (i := 0) (by omega) (nI n)
  rw [rI_sI] at w0
  have w2 := w_62 (m.rI 62 (upd (fun j => if 227 ≤ j ∧ j < 243 then -100 else clq (m.I 62) 56 j) 0 (nI n))) (i := 2) (by omega) (-100)
  rw [rI_sI, bgR_e, ← em0] at w2
  unfold f_X4_begins
  rw [o_61, Option.bind_some, m_unkn, Option.bind_some, m_unpl, Option.bind_some, rI_I, rI_rI, g_61_0, Option.bind_some, show wI (HH (m.rI 62 (fun j => if 227 ≤ j ∧ j < 243 then -100 else clq (m.I 62) 56 j))) 62 0 (nI n) = _ from w0, Option.bind_some, g_61_0, Option.bind_some, show wI (HH (m.rI 62 (upd (fun j => if 227 ≤ j ∧ j < 243 then -100 else clq (m.I 62) 56 j) 0 (nI n)))) 62 2 (-100) = _ from w2, Option.bind_some, e1, Option.bind_some]
theorem GG_bg {n : Nat} (hn : n38 n) {s : Nat → Int32} (h1 : s 1 = 0 ∨ s 1 = 1) : GG n (bgR n s) (fun _ => 0) := by
  refine ⟨hn, rfl, ?_, fun t ht => Or.inl ⟨?_, ?_, ?_, rfl⟩⟩
  · unfold bgR
    rw [if_neg (by omega), if_neg (by omega), if_neg (by omega), if_neg (by omega)]
    exact h1
  · unfold bgR
    rw [if_neg (by omega), if_neg (by omega), if_pos (by omega), if_pos (by omega)]
  · unfold bgR
    rw [if_neg (by omega), if_neg (by omega), if_pos (by omega), if_neg (by omega)]
  · unfold bgR
    rw [if_neg (by omega), if_neg (by omega), if_pos (by omega), if_neg (by omega)]
section Begin
variable {n n' : Nat} {s s' : Nat → Int32} {M M' : Nat → Int64} {q : Nat} {P : Nat → Nat → Int32} {PM : Nat → Nat → Int64} {tl : Nat} {tx : Nat → Int32} {m m1 : Mem}
theorem CC_lay (h : CC n s M q P PM tl tx m) (hq : q ≤ 4) (f : Fr cA m m1) (hL : LC n' m1) (hz : LZ m1) : CC n' s M q P PM tl tx m1 := by
  obtain ⟨h1, h2, h3, h4, h5, h6, h7, h8⟩ := h
  have u : ∀ a, ¬ cA a → m1.I a = m.I a ∧ m1.J a = m.J a := f.1
  refine ⟨hL, hz, RS_of h3 (fun a ha => u a (by unfold cS at ha; unfold cA; omega)), ?_, ?_, ?_, ?_, ?_⟩
  · rw [(u 0 (by unfold cA; omega)).1]
    exact h4
  · rw [f.2]
    exact h5
  · intro i hi
    rw [f.2]
    exact RS_of (h6 i hi) (fun a ha => u a (by have := vS_lt (h5.1 i (by omega)) ha; unfold cA; omega))
  · rw [(u 17 (by unfold cA; omega)).1]
    exact h7
  · rw [(u 18 (by unfold cA; omega)).1]
    exact h8
theorem k_begin {m : Mem} (hi : INV m) (x : Int32) : okW (f_L_begin 0 x 77) (f_X4_begin 61 x) m := by
  obtain ⟨n, s, M, q, P, PM, tl, tx, hC, hD, b⟩ := INV_out hi
  have n0 : ¬ (1 : Int32) = 0 := by decide
  by_cases c1 : x < 3
  · refine W_thr (k := 1) (by decide) ?_ hC b ⟨0, _, ?_, fl hD 1⟩
    · simp only [f_L_begin, f_X3_begin, o_0, Option.bind_some, bindTW, if_pos c1, if_true]
    · simp only [f_X4_begin, o_61, Option.bind_some, in_n (Or.inl c1), if_true, m_fails, bind2]
  · by_cases c2 : 8 < x
    · refine W_thr (k := 1) (by decide) ?_ hC b ⟨0, _, ?_, fl hD 1⟩
      · simp only [f_L_begin, f_X3_begin, o_0, Option.bind_some, bindTW, if_neg c1, if_neg (nle_lt c2), if_true]
      · simp only [f_X4_begin, o_61, Option.bind_some, in_n (Or.inr c2), if_true, m_fails, bind2]
    · have k3 : (3 : Int32).toInt = 3 := by decide
      have k8 : (8 : Int32).toInt = 8 := by decide
      have k0 : (0 : Int32).toInt = 0 := by decide
      obtain ⟨n', e', hn'⟩ : ∃ n', x = nI n' ∧ n38 n' := by
        have h0 : ¬ x < 0 := fun h => c1 (by rw [Int32.lt_iff_toInt_lt] at h ⊢; omega)
        obtain ⟨e1, e2⟩ := i32_nat h0
        rw [Int32.lt_iff_toInt_lt] at c1 c2
        exact ⟨_, e1, by omega, by omega⟩
      subst e'
      obtain ⟨m1, e1, C1, u1⟩ := C_now hC b
      obtain ⟨m2, e2, r2, f2⟩ := c_clear C1.2.2.1 n'
      have C2 := CC_now C1 (up4_le q b.2.1) f2 r2
      obtain ⟨m3, e3, L3, z3, f3⟩ := c_arrange hn' (m := m2) C2.2.1
      have C3 := CC_lay C2 (up4_le q b.2.1) f3 L3 z3
      have U : upC m m3 := upC_tr u1 (upC_tr (upC_9 f2) (upC_fr f3 (fun a h => by unfold cA at h; omega)))
      refine W_ok (m1 := m3) (w := (nI (nT n')).toInt64) ?_ C3 U hD (BB_psh b (GG_bg hn' b.1.2.2.1)) (fun m4 hD4 => ?_)
      · simp only [f_L_begin, f_X3_begin, o_0, g_0_0, g_0_1, g_0_2, g_0_3, g_0_4, g_0_5, g_0_6, g_0_7, g_0_8, g_0_9, g_0_10, g_0_11, o_1, g_1_0, g_1_1, g_1_2, g_1_3, g_1_4, g_1_5, g_1_6, g_1_7, g_1_8, g_1_9, r_2, r_3, r_4, r_5, r_6, r_7, r_8, o_9, g_9_0, g_9_1, g_9_2, g_9_3, g_9_4, g_9_5, g_9_6, g_9_7, g_9_8, g_9_9, r_10, r_11, r_12, r_13, r_14, r_15, r_16, o_17, g_17_0, g_17_1, g_17_2, g_17_3, g_17_4, r_18, r_19, r_20, r_22, r_23, r_24, r_25, r_26, r_27, r_28, o_29, g_29_0, g_29_1, g_29_2, g_29_3, g_29_4, g_29_5, g_29_6, g_29_7, g_29_8, g_29_9, r_30, r_31, r_32, r_33, r_34, r_35, r_36, o_37, g_37_0, g_37_1, g_37_2, g_37_3, g_37_4, g_37_5, g_37_6, g_37_7, g_37_8, g_37_9, r_38, r_39, r_40, r_41, r_42, r_43, r_44, o_45, g_45_0, g_45_1, g_45_2, g_45_3, g_45_4, g_45_5, g_45_6, g_45_7, g_45_8, g_45_9, r_46, r_47, r_48, r_49, r_50, r_51, r_52, o_53, g_53_0, g_53_1, g_53_2, g_53_3, g_53_4, g_53_5, g_53_6, g_53_7, g_53_8, g_53_9, r_54, r_55, r_56, r_57, r_58, r_59, r_60, o_61, g_61_0, g_61_1, g_61_2, g_61_3, g_61_4, g_61_5, g_61_6, g_61_7, g_61_8, g_61_9, g_61_10, g_61_11, g_61_12, g_61_13, g_61_14, g_61_15, g_61_16, g_61_17, g_61_18, g_61_19, g_61_20, g_61_21, g_61_22, g_61_23, r_62, r_63, r_64, r_65, r_66, r_67, r_68, r_69, r_70, r_71, r_72, r_73, r_74, r_75, r_76, r_77, Option.bind_some, bindTW, if_neg c1, if_pos (le_nlt c2), e1, e2, e3, L3.2.1, w77]
      · obtain ⟨m5, e5, D5, a5, u5⟩ := d_hold hD4
        obtain ⟨m6, e6, L6, f6⟩ := m_begins hn' m5
        rw [D5.2.1] at f6
        have D6 : DD n' (bgR n' s) q P tl tx m6 := DD_N (DD_row (s' := bgR n' s) D5) f6 L6
        obtain ⟨m7, e7, D7, z7, u7⟩ := d_ends D6 (AS_f a5 (by rw [(f6.1.1 64 (by unfold cN; omega)).1, rI_n _ _ (by omega)])) b.2.1 (nI (nT n'))
        refine ⟨_, m7, ?_, rfl, D7, z7, upM_tr u5 (upM_tr (r62 _ _) (upM_tr (up_N f6) u7))⟩
        simp only [f_X4_begin, o_0, g_0_0, g_0_1, g_0_2, g_0_3, g_0_4, g_0_5, g_0_6, g_0_7, g_0_8, g_0_9, g_0_10, g_0_11, o_1, g_1_0, g_1_1, g_1_2, g_1_3, g_1_4, g_1_5, g_1_6, g_1_7, g_1_8, g_1_9, r_2, r_3, r_4, r_5, r_6, r_7, r_8, o_9, g_9_0, g_9_1, g_9_2, g_9_3, g_9_4, g_9_5, g_9_6, g_9_7, g_9_8, g_9_9, r_10, r_11, r_12, r_13, r_14, r_15, r_16, o_17, g_17_0, g_17_1, g_17_2, g_17_3, g_17_4, r_18, r_19, r_20, r_22, r_23, r_24, r_25, r_26, r_27, r_28, o_29, g_29_0, g_29_1, g_29_2, g_29_3, g_29_4, g_29_5, g_29_6, g_29_7, g_29_8, g_29_9, r_30, r_31, r_32, r_33, r_34, r_35, r_36, o_37, g_37_0, g_37_1, g_37_2, g_37_3, g_37_4, g_37_5, g_37_6, g_37_7, g_37_8, g_37_9, r_38, r_39, r_40, r_41, r_42, r_43, r_44, o_45, g_45_0, g_45_1, g_45_2, g_45_3, g_45_4, g_45_5, g_45_6, g_45_7, g_45_8, g_45_9, r_46, r_47, r_48, r_49, r_50, r_51, r_52, o_53, g_53_0, g_53_1, g_53_2, g_53_3, g_53_4, g_53_5, g_53_6, g_53_7, g_53_8, g_53_9, r_54, r_55, r_56, r_57, r_58, r_59, r_60, o_61, g_61_0, g_61_1, g_61_2, g_61_3, g_61_4, g_61_5, g_61_6, g_61_7, g_61_8, g_61_9, g_61_10, g_61_11, g_61_12, g_61_13, g_61_14, g_61_15, g_61_16, g_61_17, g_61_18, g_61_19, g_61_20, g_61_21, g_61_22, g_61_23, r_62, r_63, r_64, r_65, r_66, r_67, r_68, r_69, r_70, r_71, r_72, r_73, r_74, r_75, r_76, r_77, Option.bind_some, in_y c1 c2, if_neg n0, e5, e6, L6.1, e7, bind2]
end Begin
