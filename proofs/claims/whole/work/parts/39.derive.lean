/-! going through the relations -/
def rowN (n r : Nat) (s : Nat → Int32) : Nat → Int32 := if tld n r s = -1 then upd s 2 (nI r) else trow n r s
def orI (c e : Int32) : Int32 := if c = 0 then e else 1
theorem orI_as {c e f : Int32} (hc : c = 0 ∨ c = 1) (he : e = 0 ∨ e = 1) : orI (orI c e) f = orI c (orI e f) := by
  rcases hc with rfl | rfl <;> rcases he with rfl | rfl <;> rfl
theorem orI_01 {c e : Int32} (he : e = 0 ∨ e = 1) : orI c e = 0 ∨ orI c e = 1 := by
  unfold orI
  split
  · exact he
  · exact Or.inr rfl
theorem tld_3 (n r : Nat) (s : Nat → Int32) : tld n r s = 1 ∨ tld n r s = 0 ∨ tld n r s = -1 := by
  unfold tld
  (repeat' split) <;> first | exact Or.inl rfl | exact Or.inr (Or.inl rfl) | exact Or.inr (Or.inr rfl)
theorem nI_no {r : Nat} (h : r < 2 ^ 31) : nI r ≠ -100 := fun e => by
  have := congrArg Int32.toInt e
  rw [nI_toInt h] at this
  have k : (-100 : Int32).toInt = -100 := by decide
  omega
theorem upd_id {f : Nat → Int32} {k : Nat} {x : Int32} (h : f k = x) : upd f k x = f := by
  funext j
  rw [upd_g]
  by_cases c : j = k
  · rw [if_pos c, c, h]
  · rw [if_neg c]
theorem vd_tld {n r : Nat} {s : Nat → Int32} (h : unk n r s 6 = 0) : (vd n r s = 1 ∧ tld n r s = 0) ∨ (vd n r s = -1 ∧ tld n r s = -1) := by
  unfold vd tld
  rw [if_pos h, if_pos h]
  split
  · exact Or.inl ⟨rfl, rfl⟩
  · exact Or.inr ⟨rfl, rfl⟩
theorem or0 (c : Int32) : c ||| (0 : Int32) = c := by simp
theorem orI_n {c e : Int32} (he : e = 0 ∨ e = 1) : (if e = 0 then (if c = 0 then some (0 : Int32) else some 1) else some 1) = some (orI c e) := by
  unfold orI
  rcases he with rfl | rfl
  · rw [if_pos rfl]
    split <;> rfl
  · rw [if_neg (by decide)]
    split <;> rfl
theorem orI_0 {c : Int32} (hc : c = 0 ∨ c = 1) : orI c 0 = c := by rcases hc with rfl | rfl <;> rfl
theorem c_step {n : Nat} {s : Nat → Int32} {M : Nat → Int64} (g : GG n s M) (h2 : s 2 = -100) {r : Nat} (hr : r < nR n) (m : Mem) (fuel : Nat) (c : Int32) (hL : LC n m) (hs : RS 9 m s M) (hc : c = 0 ∨ c = 1) :
    ∃ m1, RS 9 m1 (rowN n r s) (tM n r s M) ∧ Fr (cS 9) m m1 ∧ l_X3_deriveOnce_4 0 (fuel + 1) c (nI r) (HH m) = if tld n r s = -1 then some (.inr (0, HH m1)) else l_X3_deriveOnce_4 0 fuel (orI c (if tld n r s = 1 then 1 else 0)) (nI (r + 1)) (HH m1) := by
  have hn := g.1
  have ht : (if tld n r s = 1 then (1 : Int32) else 0) = 0 ∨ (if tld n r s = 1 then (1 : Int32) else 0) = 1 := by split <;> simp
  have hR := nR_le hn
  have hok := GG_ok g
  have hub : unk n r s 6 ≤ 6 := cntN_le _ 6
  have z0 : (nI (unk n r s 6) = 0) ↔ unk n r s 6 = 0 := nI_eq (b := 0) (by omega) (by decide)
  have z1 : (nI (unk n r s 6) = 1) ↔ unk n r s 6 = 1 := nI_eq (b := 1) (by omega) (by decide)
  have hle : ¬ nI (nR n) ≤ nI r := fun q => by rw [nI_leI (by omega) (by omega)] at q; omega
  have tr2 : trow n r s 2 = -100 := (GG_try g hr).2.2.trans h2
  simp (disch := omega) only [l_X3_deriveOnce_4, o_0, g_0_0, g_0_1, g_0_2, g_0_3, g_0_4, p_0_4, g_0_5, g_0_6, g_0_7, g_0_8, g_0_9, g_0_10, g_0_11, o_1, g_1_0, p_1_0, g_1_1, p_1_1, g_1_2, p_1_2, g_1_3, g_1_4, g_1_5, g_1_6, g_1_7, g_1_8, g_1_9, r_2, w_2, r_3, w_3, r_4, w_4, r_5, w_5, r_6, w_6, r_7, w_7, r_8, w_8, o_9, g_9_0, p_9_0, g_9_1, p_9_1, g_9_2, p_9_2, g_9_3, g_9_4, g_9_5, g_9_6, g_9_7, g_9_8, g_9_9, r_10, w_10, r_11, w_11, r_12, w_12, r_13, w_13, r_14, w_14, r_15, w_15, r_16, w_16, o_17, g_17_0, g_17_1, p_17_1, g_17_2, g_17_3, g_17_4, p_17_4, r_18, w_18, r_19, w_19, r_20, w_20, r_22, w_22, r_23, w_23, r_24, w_24, r_25, w_25, r_26, w_26, r_27, w_27, r_28, w_28, o_29, g_29_0, p_29_0, g_29_1, p_29_1, g_29_2, p_29_2, g_29_3, g_29_4, g_29_5, g_29_6, g_29_7, g_29_8, g_29_9, r_30, w_30, r_31, w_31, r_32, w_32, r_33, w_33, r_34, w_34, r_35, w_35, r_36, w_36, o_37, g_37_0, p_37_0, g_37_1, p_37_1, g_37_2, p_37_2, g_37_3, g_37_4, g_37_5, g_37_6, g_37_7, g_37_8, g_37_9, r_38, w_38, r_39, w_39, r_40, w_40, r_41, w_41, r_42, w_42, r_43, w_43, r_44, w_44, o_45, g_45_0, p_45_0, g_45_1, p_45_1, g_45_2, p_45_2, g_45_3, g_45_4, g_45_5, g_45_6, g_45_7, g_45_8, g_45_9, r_46, w_46, r_47, w_47, r_48, w_48, r_49, w_49, r_50, w_50, r_51, w_51, r_52, w_52, o_53, g_53_0, p_53_0, g_53_1, p_53_1, g_53_2, p_53_2, g_53_3, g_53_4, g_53_5, g_53_6, g_53_7, g_53_8, g_53_9, r_54, w_54, r_55, w_55, r_56, w_56, r_57, w_57, r_58, w_58, r_59, w_59, r_60, w_60, o_61, g_61_0, g_61_1, g_61_2, g_61_3, p_61_3, g_61_4, g_61_5, p_61_5, g_61_6, p_61_6, g_61_7, g_61_8, g_61_9, p_61_9, g_61_10, g_61_11, p_61_11, g_61_12, p_61_12, g_61_13, g_61_14, g_61_15, g_61_16, g_61_17, g_61_18, g_61_19, g_61_20, p_61_20, g_61_21, p_61_21, g_61_22, g_61_23, p_61_23, r_62, w_62, r_63, w_63, r_64, w_64, r_65, w_65, r_66, w_66, r_67, w_67, r_68, w_68, r_69, w_69, r_70, w_70, r_71, w_71, r_72, w_72, r_73, w_73, r_74, w_74, r_75, w_75, r_76, w_76, r_77, w_77, Option.bind_some, hL.2.2.1, if_neg hle, cl_unk hn hL hs hr]
  by_cases c1 : unk n r s 6 = 1
  · obtain ⟨m1, e1, r1, f1⟩ := c_from hn hL hs g.2.2.1 hr hok c1
    refine ⟨m1, r1, f1, ?_⟩
    have e2 : m1.I 9 2 = rowN n r s 2 := r1.2.2.1
    rw [if_pos (z1.mpr c1), e1]
    simp only [bind2, orI_n ht, o_0, g_0_0, g_0_1, g_0_2, g_0_3, g_0_4, p_0_4, g_0_5, g_0_6, g_0_7, g_0_8, g_0_9, g_0_10, g_0_11, o_1, g_1_0, p_1_0, g_1_1, p_1_1, g_1_2, p_1_2, g_1_3, g_1_4, g_1_5, g_1_6, g_1_7, g_1_8, g_1_9, r_2, w_2, r_3, w_3, r_4, w_4, r_5, w_5, r_6, w_6, r_7, w_7, r_8, w_8, o_9, g_9_0, p_9_0, g_9_1, p_9_1, g_9_2, p_9_2, g_9_3, g_9_4, g_9_5, g_9_6, g_9_7, g_9_8, g_9_9, r_10, w_10, r_11, w_11, r_12, w_12, r_13, w_13, r_14, w_14, r_15, w_15, r_16, w_16, o_17, g_17_0, g_17_1, p_17_1, g_17_2, g_17_3, g_17_4, p_17_4, r_18, w_18, r_19, w_19, r_20, w_20, r_22, w_22, r_23, w_23, r_24, w_24, r_25, w_25, r_26, w_26, r_27, w_27, r_28, w_28, o_29, g_29_0, p_29_0, g_29_1, p_29_1, g_29_2, p_29_2, g_29_3, g_29_4, g_29_5, g_29_6, g_29_7, g_29_8, g_29_9, r_30, w_30, r_31, w_31, r_32, w_32, r_33, w_33, r_34, w_34, r_35, w_35, r_36, w_36, o_37, g_37_0, p_37_0, g_37_1, p_37_1, g_37_2, p_37_2, g_37_3, g_37_4, g_37_5, g_37_6, g_37_7, g_37_8, g_37_9, r_38, w_38, r_39, w_39, r_40, w_40, r_41, w_41, r_42, w_42, r_43, w_43, r_44, w_44, o_45, g_45_0, p_45_0, g_45_1, p_45_1, g_45_2, p_45_2, g_45_3, g_45_4, g_45_5, g_45_6, g_45_7, g_45_8, g_45_9, r_46, w_46, r_47, w_47, r_48, w_48, r_49, w_49, r_50, w_50, r_51, w_51, r_52, w_52, o_53, g_53_0, p_53_0, g_53_1, p_53_1, g_53_2, p_53_2, g_53_3, g_53_4, g_53_5, g_53_6, g_53_7, g_53_8, g_53_9, r_54, w_54, r_55, w_55, r_56, w_56, r_57, w_57, r_58, w_58, r_59, w_59, r_60, w_60, o_61, g_61_0, g_61_1, g_61_2, g_61_3, p_61_3, g_61_4, g_61_5, p_61_5, g_61_6, p_61_6, g_61_7, g_61_8, g_61_9, p_61_9, g_61_10, g_61_11, p_61_11, g_61_12, p_61_12, g_61_13, g_61_14, g_61_15, g_61_16, g_61_17, g_61_18, g_61_19, g_61_20, p_61_20, g_61_21, p_61_21, g_61_22, g_61_23, p_61_23, r_62, w_62, r_63, w_63, r_64, w_64, r_65, w_65, r_66, w_66, r_67, w_67, r_68, w_68, r_69, w_69, r_70, w_70, r_71, w_71, r_72, w_72, r_73, w_73, r_74, w_74, r_75, w_75, r_76, w_76, r_77, w_77, Option.bind_some, e2]
    unfold rowN
    by_cases d : tld n r s = -1
    · rw [if_pos d, if_pos d, upd_g, if_pos rfl, if_neg (nI_no (by omega))]
    · rw [if_neg d, if_neg d, tr2, if_pos rfl, add_1]
  · rw [if_neg (fun q => c1 (z1.mp q))]
    by_cases c0 : unk n r s 6 = 0
    · rw [if_pos (z0.mpr c0), cl_vdv hn hL hs hr]
      rcases vd_tld c0 with ⟨ev, et⟩ | ⟨ev, et⟩
      · refine ⟨m, ?_, Fr_rf _ m, ?_⟩
        · unfold rowN trow tM
          rw [et, if_neg (show ¬ (0 : Int32) = -1 by decide), if_neg (show ¬ (0 : Int32) = 1 by decide), if_neg (show ¬ (0 : Int32) = 1 by decide)]
          exact hs
        · simp only [ev, et, if_pos (show (0 : Int32) ≤ 1 by decide), if_neg (show ¬ (0 : Int32) = -1 by decide), if_neg (show ¬ (0 : Int32) = 1 by decide), bind2, o_0, g_0_0, g_0_1, g_0_2, g_0_3, g_0_4, p_0_4, g_0_5, g_0_6, g_0_7, g_0_8, g_0_9, g_0_10, g_0_11, o_1, g_1_0, p_1_0, g_1_1, p_1_1, g_1_2, p_1_2, g_1_3, g_1_4, g_1_5, g_1_6, g_1_7, g_1_8, g_1_9, r_2, w_2, r_3, w_3, r_4, w_4, r_5, w_5, r_6, w_6, r_7, w_7, r_8, w_8, o_9, g_9_0, p_9_0, g_9_1, p_9_1, g_9_2, p_9_2, g_9_3, g_9_4, g_9_5, g_9_6, g_9_7, g_9_8, g_9_9, r_10, w_10, r_11, w_11, r_12, w_12, r_13, w_13, r_14, w_14, r_15, w_15, r_16, w_16, o_17, g_17_0, g_17_1, p_17_1, g_17_2, g_17_3, g_17_4, p_17_4, r_18, w_18, r_19, w_19, r_20, w_20, r_22, w_22, r_23, w_23, r_24, w_24, r_25, w_25, r_26, w_26, r_27, w_27, r_28, w_28, o_29, g_29_0, p_29_0, g_29_1, p_29_1, g_29_2, p_29_2, g_29_3, g_29_4, g_29_5, g_29_6, g_29_7, g_29_8, g_29_9, r_30, w_30, r_31, w_31, r_32, w_32, r_33, w_33, r_34, w_34, r_35, w_35, r_36, w_36, o_37, g_37_0, p_37_0, g_37_1, p_37_1, g_37_2, p_37_2, g_37_3, g_37_4, g_37_5, g_37_6, g_37_7, g_37_8, g_37_9, r_38, w_38, r_39, w_39, r_40, w_40, r_41, w_41, r_42, w_42, r_43, w_43, r_44, w_44, o_45, g_45_0, p_45_0, g_45_1, p_45_1, g_45_2, p_45_2, g_45_3, g_45_4, g_45_5, g_45_6, g_45_7, g_45_8, g_45_9, r_46, w_46, r_47, w_47, r_48, w_48, r_49, w_49, r_50, w_50, r_51, w_51, r_52, w_52, o_53, g_53_0, p_53_0, g_53_1, p_53_1, g_53_2, p_53_2, g_53_3, g_53_4, g_53_5, g_53_6, g_53_7, g_53_8, g_53_9, r_54, w_54, r_55, w_55, r_56, w_56, r_57, w_57, r_58, w_58, r_59, w_59, r_60, w_60, o_61, g_61_0, g_61_1, g_61_2, g_61_3, p_61_3, g_61_4, g_61_5, p_61_5, g_61_6, p_61_6, g_61_7, g_61_8, g_61_9, p_61_9, g_61_10, g_61_11, p_61_11, g_61_12, p_61_12, g_61_13, g_61_14, g_61_15, g_61_16, g_61_17, g_61_18, g_61_19, g_61_20, p_61_20, g_61_21, p_61_21, g_61_22, g_61_23, p_61_23, r_62, w_62, r_63, w_63, r_64, w_64, r_65, w_65, r_66, w_66, r_67, w_67, r_68, w_68, r_69, w_69, r_70, w_70, r_71, w_71, r_72, w_72, r_73, w_73, r_74, w_74, r_75, w_75, r_76, w_76, r_77, w_77, Option.bind_some, hs.2.2.1, if_pos h2, add_1, orI_0 hc]
      · obtain ⟨r4, f4⟩ := c9_clash hs (nI r)
        refine ⟨_, ?_, f4, ?_⟩
        · unfold rowN tM
          rw [et, if_pos rfl, if_neg (show ¬ (-1 : Int32) = 1 by decide)]
          exact r4
        · simp only [ev, et, if_neg (show ¬ (0 : Int32) ≤ -1 by decide), bind2, o_0, g_0_0, g_0_1, g_0_2, g_0_3, g_0_4, p_0_4, g_0_5, g_0_6, g_0_7, g_0_8, g_0_9, g_0_10, g_0_11, o_1, g_1_0, p_1_0, g_1_1, p_1_1, g_1_2, p_1_2, g_1_3, g_1_4, g_1_5, g_1_6, g_1_7, g_1_8, g_1_9, r_2, w_2, r_3, w_3, r_4, w_4, r_5, w_5, r_6, w_6, r_7, w_7, r_8, w_8, o_9, g_9_0, p_9_0, g_9_1, p_9_1, g_9_2, p_9_2, g_9_3, g_9_4, g_9_5, g_9_6, g_9_7, g_9_8, g_9_9, r_10, w_10, r_11, w_11, r_12, w_12, r_13, w_13, r_14, w_14, r_15, w_15, r_16, w_16, o_17, g_17_0, g_17_1, p_17_1, g_17_2, g_17_3, g_17_4, p_17_4, r_18, w_18, r_19, w_19, r_20, w_20, r_22, w_22, r_23, w_23, r_24, w_24, r_25, w_25, r_26, w_26, r_27, w_27, r_28, w_28, o_29, g_29_0, p_29_0, g_29_1, p_29_1, g_29_2, p_29_2, g_29_3, g_29_4, g_29_5, g_29_6, g_29_7, g_29_8, g_29_9, r_30, w_30, r_31, w_31, r_32, w_32, r_33, w_33, r_34, w_34, r_35, w_35, r_36, w_36, o_37, g_37_0, p_37_0, g_37_1, p_37_1, g_37_2, p_37_2, g_37_3, g_37_4, g_37_5, g_37_6, g_37_7, g_37_8, g_37_9, r_38, w_38, r_39, w_39, r_40, w_40, r_41, w_41, r_42, w_42, r_43, w_43, r_44, w_44, o_45, g_45_0, p_45_0, g_45_1, p_45_1, g_45_2, p_45_2, g_45_3, g_45_4, g_45_5, g_45_6, g_45_7, g_45_8, g_45_9, r_46, w_46, r_47, w_47, r_48, w_48, r_49, w_49, r_50, w_50, r_51, w_51, r_52, w_52, o_53, g_53_0, p_53_0, g_53_1, p_53_1, g_53_2, p_53_2, g_53_3, g_53_4, g_53_5, g_53_6, g_53_7, g_53_8, g_53_9, r_54, w_54, r_55, w_55, r_56, w_56, r_57, w_57, r_58, w_58, r_59, w_59, r_60, w_60, o_61, g_61_0, g_61_1, g_61_2, g_61_3, p_61_3, g_61_4, g_61_5, p_61_5, g_61_6, p_61_6, g_61_7, g_61_8, g_61_9, p_61_9, g_61_10, g_61_11, p_61_11, g_61_12, p_61_12, g_61_13, g_61_14, g_61_15, g_61_16, g_61_17, g_61_18, g_61_19, g_61_20, p_61_20, g_61_21, p_61_21, g_61_22, g_61_23, p_61_23, r_62, w_62, r_63, w_63, r_64, w_64, r_65, w_65, r_66, w_66, r_67, w_67, r_68, w_68, r_69, w_69, r_70, w_70, r_71, w_71, r_72, w_72, r_73, w_73, r_74, w_74, r_75, w_75, r_76, w_76, r_77, w_77, Option.bind_some, if_true]
          rw [sI_at, if_pos rfl, if_neg (nI_no (by omega))]
    · have et : tld n r s = 0 := by unfold tld; rw [if_neg c0, if_neg c1]
      refine ⟨m, ?_, Fr_rf _ m, ?_⟩
      · unfold rowN trow tM
        rw [et, if_neg (show ¬ (0 : Int32) = -1 by decide), if_neg (show ¬ (0 : Int32) = 1 by decide), if_neg (show ¬ (0 : Int32) = 1 by decide)]
        exact hs
      · rw [if_neg (fun q => c0 (z0.mp q))]
        simp only [et, if_neg (show ¬ (0 : Int32) = -1 by decide), if_neg (show ¬ (0 : Int32) = 1 by decide), bind2, o_0, g_0_0, g_0_1, g_0_2, g_0_3, g_0_4, p_0_4, g_0_5, g_0_6, g_0_7, g_0_8, g_0_9, g_0_10, g_0_11, o_1, g_1_0, p_1_0, g_1_1, p_1_1, g_1_2, p_1_2, g_1_3, g_1_4, g_1_5, g_1_6, g_1_7, g_1_8, g_1_9, r_2, w_2, r_3, w_3, r_4, w_4, r_5, w_5, r_6, w_6, r_7, w_7, r_8, w_8, o_9, g_9_0, p_9_0, g_9_1, p_9_1, g_9_2, p_9_2, g_9_3, g_9_4, g_9_5, g_9_6, g_9_7, g_9_8, g_9_9, r_10, w_10, r_11, w_11, r_12, w_12, r_13, w_13, r_14, w_14, r_15, w_15, r_16, w_16, o_17, g_17_0, g_17_1, p_17_1, g_17_2, g_17_3, g_17_4, p_17_4, r_18, w_18, r_19, w_19, r_20, w_20, r_22, w_22, r_23, w_23, r_24, w_24, r_25, w_25, r_26, w_26, r_27, w_27, r_28, w_28, o_29, g_29_0, p_29_0, g_29_1, p_29_1, g_29_2, p_29_2, g_29_3, g_29_4, g_29_5, g_29_6, g_29_7, g_29_8, g_29_9, r_30, w_30, r_31, w_31, r_32, w_32, r_33, w_33, r_34, w_34, r_35, w_35, r_36, w_36, o_37, g_37_0, p_37_0, g_37_1, p_37_1, g_37_2, p_37_2, g_37_3, g_37_4, g_37_5, g_37_6, g_37_7, g_37_8, g_37_9, r_38, w_38, r_39, w_39, r_40, w_40, r_41, w_41, r_42, w_42, r_43, w_43, r_44, w_44, o_45, g_45_0, p_45_0, g_45_1, p_45_1, g_45_2, p_45_2, g_45_3, g_45_4, g_45_5, g_45_6, g_45_7, g_45_8, g_45_9, r_46, w_46, r_47, w_47, r_48, w_48, r_49, w_49, r_50, w_50, r_51, w_51, r_52, w_52, o_53, g_53_0, p_53_0, g_53_1, p_53_1, g_53_2, p_53_2, g_53_3, g_53_4, g_53_5, g_53_6, g_53_7, g_53_8, g_53_9, r_54, w_54, r_55, w_55, r_56, w_56, r_57, w_57, r_58, w_58, r_59, w_59, r_60, w_60, o_61, g_61_0, g_61_1, g_61_2, g_61_3, p_61_3, g_61_4, g_61_5, p_61_5, g_61_6, p_61_6, g_61_7, g_61_8, g_61_9, p_61_9, g_61_10, g_61_11, p_61_11, g_61_12, p_61_12, g_61_13, g_61_14, g_61_15, g_61_16, g_61_17, g_61_18, g_61_19, g_61_20, p_61_20, g_61_21, p_61_21, g_61_22, g_61_23, p_61_23, r_62, w_62, r_63, w_63, r_64, w_64, r_65, w_65, r_66, w_66, r_67, w_67, r_68, w_68, r_69, w_69, r_70, w_70, r_71, w_71, r_72, w_72, r_73, w_73, r_74, w_74, r_75, w_75, r_76, w_76, r_77, w_77, Option.bind_some, hs.2.2.1, if_pos h2, add_1, orI_0 hc]
def cT (a : Nat) : Prop := a = 62 ∨ a = 69 ∨ a = 70
theorem LM_T {n : Nat} {m m1 : Mem} (h : LM n m) (f : Fr cT m m1) : LM n m1 := LM_f h f (by unfold cT; omega) (by unfold cT; omega) (by unfold cT; omega) (by unfold cT; omega)
theorem Fr_KT {m m1 : Mem} (f : Fr cK m m1) : Fr cT m m1 := Fr_w (d := cT) f (fun a h => by unfold cK at h; unfold cT; omega)
theorem m_step {n : Nat} {s : Nat → Int32} {M : Nat → Int64} (g : GG n s M) (h2 : s 2 = -100) {r : Nat} (hr : r < nR n) (m : Mem) (fuel : Nat) (c : Int32) (hL : LM n m) (hs : m.I 62 = s) :
    ∃ m1, m1.I 62 = rowN n r s ∧ Fr cT m m1 ∧ l_X4_derives_24 61 (fuel + 1) c (nI r) (HH m) = l_X4_derives_24 61 fuel (orI c (if tld n r s = 1 then 1 else 0)) (nI (r + 1)) (HH m1) := by
  subst hs
  have hn := g.1
  have hR := nR_le hn
  have hle : ¬ nI (nR n) ≤ nI r := fun q => by rw [nI_leI (by omega) (by omega)] at q; omega
  have tr2 : trow n r (m.I 62) 2 = -100 := (GG_try g hr).2.2.trans h2
  obtain ⟨m1, e1, f1⟩ := m_tries hn hL g hr
  obtain ⟨v, ev⟩ : ∃ v, v = (if 0 ≤ tld n r (m.I 62) then (-100 : Int32) else nI r) := ⟨_, rfl⟩
  refine ⟨m1.rI 62 (upd (trow n r (m.I 62)) 2 v), ?_, Fr_rI (Fr_KT f1) (Or.inl rfl), ?_⟩
  · rw [rI_I, ev]
    unfold rowN
    rcases tld_3 n r (m.I 62) with e | e | e
    · rw [e, if_pos (by decide), if_neg (show ¬ (1 : Int32) = -1 by decide)]
      exact upd_id tr2
    · rw [e, if_pos (by decide), if_neg (show ¬ (0 : Int32) = -1 by decide)]
      exact upd_id tr2
    · unfold trow
      rw [e, if_neg (show ¬ (0 : Int32) ≤ -1 by decide), if_pos rfl, if_neg (show ¬ (-1 : Int32) = 1 by decide)]
  · have w := w_62 (m1.rI 62 (trow n r (m.I 62))) (i := 2) (by omega) v
    rw [rI_sI] at w
    have ea : (if c = 0 then (if tld n r (m.I 62) = 1 then some (1 : Int32) else some 0) else some 1) = some (orI c (if tld n r (m.I 62) = 1 then 1 else 0)) := by
      unfold orI
      (repeat' split) <;> rfl
    have eb : (if 0 ≤ tld n r (m.I 62) then some (-100 : Int32) else some (nI r)) = some v := by
      rw [ev]
      split <;> rfl
    rw [l_X4_derives_24, g_61_11, Option.bind_some, hL.2.1, if_neg hle, g_61_0, Option.bind_some, show aI (HH m) 62 2 = some (m.I 62 2) from r_62 m (i := 2) (by omega), Option.bind_some, if_pos h2, e1]
    simp only [bind2]
    rw [ea, Option.bind_some, g_61_0, Option.bind_some, eb, Option.bind_some, show wI (HH (m1.rI 62 (trow n r (m.I 62)))) 62 2 v = _ from w, Option.bind_some, add_1]
theorem rowN_many {n r : Nat} {s : Nat → Int32} {M : Nat → Int64} (g : GG n s M) (hr : r < nR n) : (tld n r s = 1 → many (rowN n r s) 2 (nT n) = many s 2 (nT n) + 1) ∧ many s 2 (nT n) ≤ many (rowN n r s) 2 (nT n) := by
  have k := (GG_try g hr).2.1
  unfold rowN
  by_cases e : tld n r s = 1
  · rw [if_neg (by rw [e]; decide)]
    exact ⟨k, by rw [k e]; omega⟩
  · refine ⟨fun q => absurd q e, ?_⟩
    by_cases d : tld n r s = -1
    · rw [if_pos d]
      refine Nat.le_of_eq (cntN_cg _ _ _ (fun u _ => ?_))
      rw [upd_g, if_neg (by omega)]
    · rw [if_neg d]
      unfold trow
      rw [if_neg e]
      exact Nat.le_refl _
theorem GG_2 {n : Nat} {s : Nat → Int32} {M : Nat → Int64} (g : GG n s M) (x : Int32) : GG n (upd s 2 x) M := by
  obtain ⟨hn, g0, g1, gt⟩ := g
  have o : ∀ j, j ≠ 2 → upd s 2 x j = s j := fun j hj => by rw [upd_g, if_neg hj]
  have om : many (upd s 2 x) 2 (nT n) = many s 2 (nT n) := cntN_cg _ _ _ (fun u _ => by rw [o _ (by omega)])
  have o0 : ∀ t, upd s 2 x (3 + 4 * t) = s (3 + 4 * t) := fun t => o _ (by omega)
  have o1 : ∀ t, upd s 2 x (3 + 4 * t + 1) = s (3 + 4 * t + 1) := fun t => o _ (by omega)
  have o2 : ∀ t, upd s 2 x (3 + 4 * t + 2) = s (3 + 4 * t + 2) := fun t => o _ (by omega)
  have o3 : ∀ t, upd s 2 x (3 + 4 * t + 3) = s (3 + 4 * t + 3) := fun t => o _ (by omega)
  refine ⟨hn, by rw [o 0 (by omega)]; exact g0, by rw [o 1 (by omega)]; exact g1, fun t ht => ?_⟩
  unfold gTr G0 G1 G2
  simp only [o0, o1, o2, o3, om]
  exact gt t ht
theorem GG_N {n r : Nat} {s : Nat → Int32} {M : Nat → Int64} (g : GG n s M) (hr : r < nR n) : GG n (rowN n r s) (tM n r s M) := by
  unfold rowN
  by_cases d : tld n r s = -1
  · rw [if_pos d]
    unfold tM
    rw [if_neg (by rw [d]; decide)]
    exact GG_2 g _
  · rw [if_neg d]
    exact (GG_try g hr).1
theorem rowN_2 {n r : Nat} {s : Nat → Int32} {M : Nat → Int64} (g : GG n s M) (h2 : s 2 = -100) (hr : r < nR n) : rowN n r s 2 = if tld n r s = -1 then nI r else -100 := by
  unfold rowN
  by_cases d : tld n r s = -1
  · rw [if_pos d, if_pos d, upd_g, if_pos rfl]
  · rw [if_neg d, if_neg d]
    exact (GG_try g hr).2.2.trans h2
/-- once through all relations from r on: the class and the reference -/
theorem d_round {n : Nat} : ∀ d r (s : Nat → Int32) (M : Nat → Int64), r + d = nR n → GG n s M → s 2 = -100 → ∃ s' M' e, (e = 0 ∨ e = 1) ∧ GG n s' M' ∧ (e = 0 → many s 2 (nT n) ≤ many s' 2 (nT n)) ∧ (e = 1 → many s 2 (nT n) + 1 ≤ many s' 2 (nT n)) ∧
    (∀ m fuel c, d < fuel → (c = 0 ∨ c = 1) → LC n m → RS 9 m s M → ∃ m1, l_X3_deriveOnce_4 0 fuel c (nI r) (HH m) = some (if s' 2 = -100 then .inl (orI c e, HH m1) else .inr (0, HH m1)) ∧ RS 9 m1 s' M' ∧ Fr (cS 9) m m1) ∧
    (∀ m fuel c, d + 1 < fuel → (c = 0 ∨ c = 1) → LM n m → m.I 62 = s → ∃ m1 y, l_X4_derives_24 61 fuel c (nI r) (HH m) = some (y, HH m1) ∧ (s' 2 = -100 → y = orI c e) ∧ m1.I 62 = s' ∧ Fr cT m m1) := by
  intro d
  induction d with
  | zero =>
    intro r s M hd g h2
    have hR := nR_le g.1
    have er : r = nR n := by omega
    subst er
    refine ⟨s, M, 0, Or.inl rfl, g, fun _ => Nat.le_refl _, fun h => absurd h (by decide), ?_, ?_⟩
    · intro m fuel c hf hc hL hs
      obtain ⟨f, rfl⟩ : ∃ f, fuel = f + 1 := ⟨fuel - 1, by omega⟩
      refine ⟨m, ?_, hs, Fr_rf _ m⟩
      rw [l_X3_deriveOnce_4, g_0_0, Option.bind_some, g_1_2, Option.bind_some, hL.2.2.1, if_pos (Int32.le_refl _), if_pos h2]
      rcases hc with rfl | rfl <;> rfl
    · intro m fuel c hf hc hL hs
      obtain ⟨f, rfl⟩ : ∃ f, fuel = f + 1 := ⟨fuel - 1, by omega⟩
      refine ⟨m, c, ?_, fun _ => ?_, hs, Fr_rf _ m⟩
      · rw [l_X4_derives_24, g_61_11, Option.bind_some, hL.2.1, if_pos (Int32.le_refl _)]
      · rcases hc with rfl | rfl <;> rfl
  | succ d ih =>
    intro r s M hd g h2
    have hR := nR_le g.1
    have hr : r < nR n := by omega
    have gN := GG_N g hr
    have n2 := rowN_2 g h2 hr
    obtain ⟨mn1, mn2⟩ := rowN_many g hr
    by_cases et : tld n r s = -1
    · rw [if_pos et] at n2
      have hne : ¬ rowN n r s 2 = -100 := by rw [n2]; exact nI_no (by omega)
      refine ⟨rowN n r s, tM n r s M, 0, Or.inl rfl, gN, fun _ => mn2, fun h => absurd h (by decide), ?_, ?_⟩
      · intro m fuel c hf hc hL hs
        obtain ⟨f, rfl⟩ : ∃ f, fuel = f + 1 := ⟨fuel - 1, by omega⟩
        obtain ⟨m1, r1, f1, e1⟩ := c_step g h2 hr m f c hL hs hc
        refine ⟨m1, ?_, r1, f1⟩
        rw [e1, if_pos et, if_neg hne]
      · intro m fuel c hf hc hL hs
        obtain ⟨f, rfl⟩ : ∃ f, fuel = f + 1 + 1 := ⟨fuel - 2, by omega⟩
        obtain ⟨m1, r1, f1, e1⟩ := m_step g h2 hr m (f + 1) c hL hs
        refine ⟨m1, orI c (if tld n r s = 1 then 1 else 0), ?_, fun q => absurd q hne, r1, f1⟩
        have hL1 := LM_T hL f1
        rw [e1, l_X4_derives_24, g_61_11, Option.bind_some]
        by_cases c2 : m1.I 61 11 ≤ nI (r + 1)
        · rw [if_pos c2]
        · rw [if_neg c2, g_61_0, Option.bind_some, show aI (HH m1) 62 2 = some (m1.I 62 2) from r_62 m1 (i := 2) (by omega), Option.bind_some, if_neg (by rw [r1]; exact hne)]
    · rw [if_neg et] at n2
      obtain ⟨s', M', e, he, g', k0, k1, hc, hm⟩ := ih (r + 1) (rowN n r s) (tM n r s M) (by omega) gN n2
      have ht : (if tld n r s = 1 then (1 : Int32) else 0) = 0 ∨ (if tld n r s = 1 then (1 : Int32) else 0) = 1 := by split <;> simp
      have kk : many (rowN n r s) 2 (nT n) ≤ many s' 2 (nT n) := by
        rcases he with h | h
        · exact k0 h
        · have := k1 h
          omega
      refine ⟨s', M', orI (if tld n r s = 1 then 1 else 0) e, orI_01 he, g', fun _ => by omega, fun q => ?_, ?_, ?_⟩
      · by_cases e1 : tld n r s = 1
        · have := mn1 e1
          omega
        · rw [if_neg e1] at q
          have := k1 q
          omega
      · intro m fuel c hf hcc hL hs
        obtain ⟨f, rfl⟩ : ∃ f, fuel = f + 1 := ⟨fuel - 1, by omega⟩
        obtain ⟨m1, r1, f1, e1⟩ := c_step g h2 hr m f c hL hs hcc
        obtain ⟨m2, e2, r2, f2⟩ := hc m1 f (orI c (if tld n r s = 1 then 1 else 0)) (by omega) (orI_01 ht) (LC_9 hL f1) r1
        refine ⟨m2, ?_, r2, Fr_tr f1 f2⟩
        rw [e1, if_neg et, e2, orI_as hcc ht]
      · intro m fuel c hf hcc hL hs
        obtain ⟨f, rfl⟩ : ∃ f, fuel = f + 1 := ⟨fuel - 1, by omega⟩
        obtain ⟨m1, r1, f1, e1⟩ := m_step g h2 hr m f c hL hs
        obtain ⟨m2, y, e2, ey, r2, f2⟩ := hm m1 f (orI c (if tld n r s = 1 then 1 else 0)) (by omega) (orI_01 ht) (LM_T hL f1) r1
        exact ⟨m2, y, by rw [e1, e2], fun q => by rw [ey q, orI_as hcc ht], r2, Fr_tr f1 f2⟩
/-- again and again -/
theorem d_all {n : Nat} : ∀ d k (s : Nat → Int32) (M : Nat → Int64), k + d = 57 → GG n s M → s 2 = -100 → k ≤ many s 2 (nT n) → ∃ s' M', GG n s' M' ∧
    (∀ m fuel, d < fuel → LC n m → RS 9 m s M → ∃ m1, l_X3_deriveAll_29 0 fuel 1 (nI k) (HH m) = some (HH m1) ∧ RS 9 m1 s' M' ∧ Fr (cS 9) m m1) ∧
    (∀ m fuel, d < fuel → LM n m → m.I 62 = s → ∃ m1, l_X4_derives_16 61 fuel 1 (HH m) = some (HH m1) ∧ m1.I 62 = s' ∧ Fr cT m m1) := by
  intro d
  induction d with
  | zero =>
    intro k s M hd g h2 hk
    have hT := nT_le g.1
    have : many s 2 (nT n) ≤ nT n := cntN_le _ _
    omega
  | succ d ih =>
    intro k s M hd g h2 hk
    have hT := nT_le g.1
    have hR := nR_le g.1
    have hm : many s 2 (nT n) ≤ nT n := cntN_le _ _
    have k56 : ¬ (56 : Int32) < nI k := fun q => by
      rw [Int32.lt_iff_toInt_lt, nI_toInt (by omega)] at q
      have : (56 : Int32).toInt = 56 := by decide
      omega
    obtain ⟨s1, M1, e, he, g1, k0, k1, hc, hmm⟩ := d_round (nR n) 0 s M (by omega) g h2
    have once : ∀ m, LC n m → RS 9 m s M → ∃ m1, f_X3_deriveOnce 0 (HH m) = some (if s1 2 = -100 then e else 0, HH m1) ∧ RS 9 m1 s1 M1 ∧ Fr (cS 9) m m1 := by
      intro m hL hs
      obtain ⟨m1, e1, r1, f1⟩ := hc m FU 0 (FUx (by omega)) (Or.inl rfl) hL hs
      refine ⟨m1, ?_, r1, f1⟩
      unfold f_X3_deriveOnce
      rw [o_0, Option.bind_some, show l_X3_deriveOnce_4 0 FU 0 0 (HH m) = _ from e1]
      by_cases c : s1 2 = -100
      · rw [if_pos c, if_pos c]
        simp only [bindR2]
        rw [show gB (orI 0 e) = some () from if_pos he]
        rfl
      · rw [if_neg c, if_neg c]
        rfl
    have mnce : ∀ m, LM n m → m.I 62 = s → ∃ m1 y, l_X4_derives_24 61 FU 0 0 (HH m) = some (y, HH m1) ∧ (if y = 0 then some (0 : Int32) else (fR 4 0 (HH m1) 61).bind fun v32 => (aI (HH m1) v32 (2 : Int32)).bind fun v33 => if v33 = (-100 : Int32) then some (1 : Int32) else some (0 : Int32)) = some (if s1 2 = -100 then e else 0) ∧ m1.I 62 = s1 ∧ Fr cT m m1 := by
      intro m hL hs
      obtain ⟨m1, y, e1, ey, r1, f1⟩ := hmm m FU 0 (FUx (by omega)) (Or.inl rfl) hL hs
      refine ⟨m1, y, e1, ?_, r1, f1⟩
      rw [g_61_0, Option.bind_some, show aI (HH m1) 62 2 = some (m1.I 62 2) from r_62 m1 (i := 2) (by omega), Option.bind_some, r1]
      by_cases c : s1 2 = -100
      · rw [if_pos c, if_pos c, ey c]
        rcases he with rfl | rfl <;> rfl
      · rw [if_neg c, if_neg c]
        split <;> rfl
    by_cases c1 : s1 2 = -100 ∧ e = 1
    · obtain ⟨s', M', g', hc2, hm2⟩ := ih (k + 1) s1 M1 (by omega) g1 c1.1 (by have := k1 c1.2; omega)
      refine ⟨s', M', g', ?_, ?_⟩
      · intro m fuel hf hL hs
        obtain ⟨f, rfl⟩ : ∃ f, fuel = f + 1 := ⟨fuel - 1, by omega⟩
        obtain ⟨m1, e1, r1, f1⟩ := once m hL hs
        obtain ⟨m2, e2, r2, f2⟩ := hc2 m1 f (by omega) (LC_9 hL f1) r1
        refine ⟨m2, ?_, r2, Fr_tr f1 f2⟩
        rw [l_X3_deriveAll_29, if_neg (show ¬ (1 : Int32) = 0 by decide), if_neg k56, e1, if_pos c1.1, c1.2, add_1]
        exact e2
      · intro m fuel hf hL hs
        obtain ⟨f, rfl⟩ : ∃ f, fuel = f + 1 := ⟨fuel - 1, by omega⟩
        obtain ⟨m1, y, e1, ey, r1, f1⟩ := mnce m hL hs
        obtain ⟨m2, e2, r2, f2⟩ := hm2 m1 f (by omega) (LM_T hL f1) r1
        refine ⟨m2, ?_, r2, Fr_tr f1 f2⟩
        rw [l_X4_derives_16, if_neg (show ¬ (1 : Int32) = 0 by decide), e1]
        simp only [bind2]
        rw [ey, if_pos c1.1, c1.2, Option.bind_some]
        exact e2
    · have z : (if s1 2 = -100 then e else 0) = 0 := by
        by_cases c : s1 2 = -100
        · rw [if_pos c]
          rcases he with h | h
          · exact h
          · exact absurd ⟨c, h⟩ c1
        · rw [if_neg c]
      refine ⟨s1, M1, g1, ?_, ?_⟩
      · intro m fuel hf hL hs
        obtain ⟨f, rfl⟩ : ∃ f, fuel = f + 1 + 1 := ⟨fuel - 2, by omega⟩
        obtain ⟨m1, e1, r1, f1⟩ := once m hL hs
        refine ⟨m1, ?_, r1, f1⟩
        rw [l_X3_deriveAll_29, if_neg (show ¬ (1 : Int32) = 0 by decide), if_neg k56, e1, z]
        simp only [bind2]
        rw [l_X3_deriveAll_29, if_pos rfl]
      · intro m fuel hf hL hs
        obtain ⟨f, rfl⟩ : ∃ f, fuel = f + 1 + 1 := ⟨fuel - 2, by omega⟩
        obtain ⟨m1, y, e1, ey, r1, f1⟩ := mnce m hL hs
        refine ⟨m1, ?_, r1, f1⟩
        rw [l_X4_derives_16, if_neg (show ¬ (1 : Int32) = 0 by decide), e1]
        simp only [bind2]
        rw [ey, z, Option.bind_some, l_X4_derives_16, if_pos rfl]
theorem d_derive {n : Nat} {s : Nat → Int32} {M : Nat → Int64} (g : GG n s M) : ∃ s' M' v, GG n s' M' ∧
    (∀ m, LC n m → RS 9 m s M → ∃ m1, f_X3_deriveAll 0 (HH m) = some (v, HH m1) ∧ RS 9 m1 s' M' ∧ Fr (cS 9) m m1) ∧
    (∀ m, LM n m → m.I 62 = s → ∃ m1, f_X4_derives 61 (HH m) = some (v, HH m1) ∧ m1.I 62 = s' ∧ Fr cT m m1) := by
  have hT := nT_le g.1
  obtain ⟨s', M', g', hc, hm⟩ := d_all (n := n) 57 0 (upd s 2 (-100)) M rfl (GG_2 g _) (by rw [upd_g, if_pos rfl]) (Nat.zero_le _)
  have om : many (upd s 2 (-100)) 2 (nT n) = many s 2 (nT n) := cntN_cg _ _ _ (fun u _ => by rw [upd_g, if_neg (by omega)])
  refine ⟨s', M', nI (many s' 2 (nT n)) - nI (many s 2 (nT n)), g', ?_, ?_⟩
  · intro m hL hs
    obtain ⟨r0, f0⟩ := c9_clash hs (-100)
    obtain ⟨m1, e1, r1, f1⟩ := hc _ FU (FUx (by omega)) (LC_9 hL f0) r0
    have f2 := Fr_tr f0 f1
    have hL1 := LC_9 hL f2
    refine ⟨m1, ?_, r1, f2⟩
    have e2 : l_X3_deriveAll_29 0 FU 1 0 (HH (m.sI 9 2 (-100))) = some (HH m1) := e1
    simp only [f_X3_deriveAll, o_0, g_0_0, g_0_1, g_0_2, g_0_3, g_0_4, p_0_4, g_0_5, g_0_6, g_0_7, g_0_8, g_0_9, g_0_10, g_0_11, o_1, g_1_0, p_1_0, g_1_1, p_1_1, g_1_2, p_1_2, g_1_3, g_1_4, g_1_5, g_1_6, g_1_7, g_1_8, g_1_9, r_2, w_2, r_3, w_3, r_4, w_4, r_5, w_5, r_6, w_6, r_7, w_7, r_8, w_8, o_9, g_9_0, p_9_0, g_9_1, p_9_1, g_9_2, p_9_2, g_9_3, g_9_4, g_9_5, g_9_6, g_9_7, g_9_8, g_9_9, r_10, w_10, r_11, w_11, r_12, w_12, r_13, w_13, r_14, w_14, r_15, w_15, r_16, w_16, o_17, g_17_0, g_17_1, p_17_1, g_17_2, g_17_3, g_17_4, p_17_4, r_18, w_18, r_19, w_19, r_20, w_20, r_22, w_22, r_23, w_23, r_24, w_24, r_25, w_25, r_26, w_26, r_27, w_27, r_28, w_28, o_29, g_29_0, p_29_0, g_29_1, p_29_1, g_29_2, p_29_2, g_29_3, g_29_4, g_29_5, g_29_6, g_29_7, g_29_8, g_29_9, r_30, w_30, r_31, w_31, r_32, w_32, r_33, w_33, r_34, w_34, r_35, w_35, r_36, w_36, o_37, g_37_0, p_37_0, g_37_1, p_37_1, g_37_2, p_37_2, g_37_3, g_37_4, g_37_5, g_37_6, g_37_7, g_37_8, g_37_9, r_38, w_38, r_39, w_39, r_40, w_40, r_41, w_41, r_42, w_42, r_43, w_43, r_44, w_44, o_45, g_45_0, p_45_0, g_45_1, p_45_1, g_45_2, p_45_2, g_45_3, g_45_4, g_45_5, g_45_6, g_45_7, g_45_8, g_45_9, r_46, w_46, r_47, w_47, r_48, w_48, r_49, w_49, r_50, w_50, r_51, w_51, r_52, w_52, o_53, g_53_0, p_53_0, g_53_1, p_53_1, g_53_2, p_53_2, g_53_3, g_53_4, g_53_5, g_53_6, g_53_7, g_53_8, g_53_9, r_54, w_54, r_55, w_55, r_56, w_56, r_57, w_57, r_58, w_58, r_59, w_59, r_60, w_60, o_61, g_61_0, g_61_1, g_61_2, g_61_3, p_61_3, g_61_4, g_61_5, p_61_5, g_61_6, p_61_6, g_61_7, g_61_8, g_61_9, p_61_9, g_61_10, g_61_11, p_61_11, g_61_12, p_61_12, g_61_13, g_61_14, g_61_15, g_61_16, g_61_17, g_61_18, g_61_19, g_61_20, p_61_20, g_61_21, p_61_21, g_61_22, g_61_23, p_61_23, r_62, w_62, r_63, w_63, r_64, w_64, r_65, w_65, r_66, w_66, r_67, w_67, r_68, w_68, r_69, w_69, r_70, w_70, r_71, w_71, r_72, w_72, r_73, w_73, r_74, w_74, r_75, w_75, r_76, w_76, r_77, w_77, Option.bind_some, hL.2.1, s9_count m hs 2 hT, e2, hL1.2.1, s9_count m1 r1 2 hT]
  · intro m hL hs
    subst hs
    have w := w_62 m (i := 2) (by omega) (-100)
    rw [sI_r] at w
    have hL0 : LM n (m.rI 62 (upd (m.I 62) 2 (-100))) := LM_fr hL rfl rfl rfl rfl rfl
    obtain ⟨m1, e1, r1, f1⟩ := hm (m.rI 62 (upd (m.I 62) 2 (-100))) FU (FUx (by omega)) hL0 (rI_I _ _ _)
    have hL1 := LM_T hL0 f1
    refine ⟨m1, ?_, r1, Fr_tr (Fr_rI (Fr_rf _ m) (Or.inl rfl)) f1⟩
    unfold f_X4_derives
    rw [o_61, Option.bind_some, g_61_0, Option.bind_some, show wI (HH m) 62 2 (-100) = _ from w, Option.bind_some, m_many _ 2 hT hL0.1, Option.bind_some, show l_X4_derives_16 61 FU 1 (HH (m.rI 62 (upd (m.I 62) 2 (-100)))) = _ from e1, Option.bind_some, m_many _ 2 hT hL1.1, Option.bind_some, r1, rI_I, om]
