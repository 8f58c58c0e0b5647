/-! digest -/
def mxW (h : Int64) (v : Int32) : Int64 := (31 : Int64) * h + v.toInt64
def itD (F : Int64 → Nat → Int64) (h : Int64) : Nat → Int64
  | 0 => h
  | k + 1 => F (itD F h k) k
theorem itD_s (F : Int64 → Nat → Int64) (h : Int64) (k : Nat) : itD F h (k + 1) = F (itD F h k) k := rfl
def dC (n : Nat) (s : Nat → Int32) (h : Int64) (i : Nat) : Int64 := mxW h (cv n s i)
def dV (s : Nat → Int32) (t : Nat) (h : Int64) (i : Nat) : Int64 := mxW h (s (3 + 4 * t + i))
def dT (s : Nat → Int32) (M : Nat → Int64) (h : Int64) (t : Nat) : Int64 := (31 : Int64) * itD (dV s t) h 4 + M t
def dR (n : Nat) (s : Nat → Int32) (h : Int64) (r : Nat) : Int64 := mxW (mxW h (rv n s r 5)) (rv n s r 6)
def dP (n : Nat) (s : Nat → Int32) (h : Int64) (p : Nat) : Int64 := mxW (mxW (mxW h (b01 (exQ n s p n))) (s (227 + 2 * p))) (s (227 + 2 * p + 1))
def dA (n : Nat) (s : Nat → Int32) (M : Nat → Int64) (q tl : Nat) : Int64 := mxW (itD (dP n s) (itD (dR n s) (itD (dT s M) (itD (dC n s) (mxW (mxW 18398 (nI q)) (nI tl)) 10) (nT n)) (nR n)) n) (nI (mis n s (rX s) (rY s) (nT n)))
theorem c_tv {n : Nat} (hn : n38 n) {m : Mem} (hL : LC n m) {s : Nat → Int32} {M : Nat → Int64} (hs : RS 9 m s M) {t i : Nat} (ht : t < nT n) (hi : i < 4) : f_X3_triple 0 (nI t) (nI (3 + i)) (HH m) = some (.inr (s (3 + 4 * t + i))) := by
  have hT := nT_le hn
  have z := hs.2.2.2.1 t (by omega)
  have e : i = 0 ∨ i = 1 ∨ i = 2 ∨ i = 3 := by omega
  rcases e with rfl | rfl | rfl | rfl
  · simp (disch := omega) only [f_X3_triple, o_0, g_0_0, g_0_1, g_0_2, g_0_3, g_0_4, g_0_5, g_0_6, g_0_7, g_0_8, g_0_9, g_0_10, g_0_11, o_1, g_1_0, g_1_1, g_1_2, g_1_3, g_1_4, g_1_5, g_1_6, g_1_7, g_1_8, g_1_9, r_2, r_3, r_4, r_5, r_6, r_7, r_8, o_9, g_9_0, g_9_1, g_9_2, g_9_3, g_9_4, g_9_5, g_9_6, g_9_7, g_9_8, g_9_9, r_10, r_11, r_12, r_13, r_14, r_15, r_16, o_17, g_17_0, g_17_1, g_17_2, g_17_3, g_17_4, r_18, r_19, r_20, r_22, r_23, r_24, r_25, r_26, r_27, r_28, o_29, g_29_0, g_29_1, g_29_2, g_29_3, g_29_4, g_29_5, g_29_6, g_29_7, g_29_8, g_29_9, r_30, r_31, r_32, r_33, r_34, r_35, r_36, o_37, g_37_0, g_37_1, g_37_2, g_37_3, g_37_4, g_37_5, g_37_6, g_37_7, g_37_8, g_37_9, r_38, r_39, r_40, r_41, r_42, r_43, r_44, o_45, g_45_0, g_45_1, g_45_2, g_45_3, g_45_4, g_45_5, g_45_6, g_45_7, g_45_8, g_45_9, r_46, r_47, r_48, r_49, r_50, r_51, r_52, o_53, g_53_0, g_53_1, g_53_2, g_53_3, g_53_4, g_53_5, g_53_6, g_53_7, g_53_8, g_53_9, r_54, r_55, r_56, r_57, r_58, r_59, r_60, o_61, g_61_0, g_61_1, g_61_2, g_61_3, g_61_4, g_61_5, g_61_6, g_61_7, g_61_8, g_61_9, g_61_10, g_61_11, g_61_12, g_61_13, g_61_14, g_61_15, g_61_16, g_61_17, g_61_18, g_61_19, g_61_20, g_61_21, g_61_22, g_61_23, r_62, r_63, r_64, r_65, r_66, r_67, r_68, r_69, r_70, r_71, r_72, r_73, r_74, r_75, r_76, r_77, Option.bind_some, rt_y hn hL ht, bindT, if_neg (show ¬ nI (3 + 0) = (0 : Int32) by decide), if_neg (show ¬ nI (3 + 0) = (1 : Int32) by decide), if_neg (show ¬ nI (3 + 0) = (2 : Int32) by decide), if_pos (show nI (3 + 0) = (3 : Int32) from rfl)]
    rw [show m.I 10 t = _ from z.1]
    rfl
  · simp (disch := omega) only [f_X3_triple, o_0, g_0_0, g_0_1, g_0_2, g_0_3, g_0_4, g_0_5, g_0_6, g_0_7, g_0_8, g_0_9, g_0_10, g_0_11, o_1, g_1_0, g_1_1, g_1_2, g_1_3, g_1_4, g_1_5, g_1_6, g_1_7, g_1_8, g_1_9, r_2, r_3, r_4, r_5, r_6, r_7, r_8, o_9, g_9_0, g_9_1, g_9_2, g_9_3, g_9_4, g_9_5, g_9_6, g_9_7, g_9_8, g_9_9, r_10, r_11, r_12, r_13, r_14, r_15, r_16, o_17, g_17_0, g_17_1, g_17_2, g_17_3, g_17_4, r_18, r_19, r_20, r_22, r_23, r_24, r_25, r_26, r_27, r_28, o_29, g_29_0, g_29_1, g_29_2, g_29_3, g_29_4, g_29_5, g_29_6, g_29_7, g_29_8, g_29_9, r_30, r_31, r_32, r_33, r_34, r_35, r_36, o_37, g_37_0, g_37_1, g_37_2, g_37_3, g_37_4, g_37_5, g_37_6, g_37_7, g_37_8, g_37_9, r_38, r_39, r_40, r_41, r_42, r_43, r_44, o_45, g_45_0, g_45_1, g_45_2, g_45_3, g_45_4, g_45_5, g_45_6, g_45_7, g_45_8, g_45_9, r_46, r_47, r_48, r_49, r_50, r_51, r_52, o_53, g_53_0, g_53_1, g_53_2, g_53_3, g_53_4, g_53_5, g_53_6, g_53_7, g_53_8, g_53_9, r_54, r_55, r_56, r_57, r_58, r_59, r_60, o_61, g_61_0, g_61_1, g_61_2, g_61_3, g_61_4, g_61_5, g_61_6, g_61_7, g_61_8, g_61_9, g_61_10, g_61_11, g_61_12, g_61_13, g_61_14, g_61_15, g_61_16, g_61_17, g_61_18, g_61_19, g_61_20, g_61_21, g_61_22, g_61_23, r_62, r_63, r_64, r_65, r_66, r_67, r_68, r_69, r_70, r_71, r_72, r_73, r_74, r_75, r_76, r_77, Option.bind_some, rt_y hn hL ht, bindT, if_neg (show ¬ nI (3 + 1) = (0 : Int32) by decide), if_neg (show ¬ nI (3 + 1) = (1 : Int32) by decide), if_neg (show ¬ nI (3 + 1) = (2 : Int32) by decide), if_neg (show ¬ nI (3 + 1) = (3 : Int32) by decide), if_pos (show nI (3 + 1) = (4 : Int32) from rfl)]
    rw [show m.I 11 t = _ from z.2.1]
  · simp (disch := omega) only [f_X3_triple, o_0, g_0_0, g_0_1, g_0_2, g_0_3, g_0_4, g_0_5, g_0_6, g_0_7, g_0_8, g_0_9, g_0_10, g_0_11, o_1, g_1_0, g_1_1, g_1_2, g_1_3, g_1_4, g_1_5, g_1_6, g_1_7, g_1_8, g_1_9, r_2, r_3, r_4, r_5, r_6, r_7, r_8, o_9, g_9_0, g_9_1, g_9_2, g_9_3, g_9_4, g_9_5, g_9_6, g_9_7, g_9_8, g_9_9, r_10, r_11, r_12, r_13, r_14, r_15, r_16, o_17, g_17_0, g_17_1, g_17_2, g_17_3, g_17_4, r_18, r_19, r_20, r_22, r_23, r_24, r_25, r_26, r_27, r_28, o_29, g_29_0, g_29_1, g_29_2, g_29_3, g_29_4, g_29_5, g_29_6, g_29_7, g_29_8, g_29_9, r_30, r_31, r_32, r_33, r_34, r_35, r_36, o_37, g_37_0, g_37_1, g_37_2, g_37_3, g_37_4, g_37_5, g_37_6, g_37_7, g_37_8, g_37_9, r_38, r_39, r_40, r_41, r_42, r_43, r_44, o_45, g_45_0, g_45_1, g_45_2, g_45_3, g_45_4, g_45_5, g_45_6, g_45_7, g_45_8, g_45_9, r_46, r_47, r_48, r_49, r_50, r_51, r_52, o_53, g_53_0, g_53_1, g_53_2, g_53_3, g_53_4, g_53_5, g_53_6, g_53_7, g_53_8, g_53_9, r_54, r_55, r_56, r_57, r_58, r_59, r_60, o_61, g_61_0, g_61_1, g_61_2, g_61_3, g_61_4, g_61_5, g_61_6, g_61_7, g_61_8, g_61_9, g_61_10, g_61_11, g_61_12, g_61_13, g_61_14, g_61_15, g_61_16, g_61_17, g_61_18, g_61_19, g_61_20, g_61_21, g_61_22, g_61_23, r_62, r_63, r_64, r_65, r_66, r_67, r_68, r_69, r_70, r_71, r_72, r_73, r_74, r_75, r_76, r_77, Option.bind_some, rt_y hn hL ht, bindT, if_neg (show ¬ nI (3 + 2) = (0 : Int32) by decide), if_neg (show ¬ nI (3 + 2) = (1 : Int32) by decide), if_neg (show ¬ nI (3 + 2) = (2 : Int32) by decide), if_neg (show ¬ nI (3 + 2) = (3 : Int32) by decide), if_neg (show ¬ nI (3 + 2) = (4 : Int32) by decide), if_pos (show nI (3 + 2) = (5 : Int32) from rfl)]
    rw [show m.I 12 t = _ from z.2.2.1]
  · simp (disch := omega) only [f_X3_triple, o_0, g_0_0, g_0_1, g_0_2, g_0_3, g_0_4, g_0_5, g_0_6, g_0_7, g_0_8, g_0_9, g_0_10, g_0_11, o_1, g_1_0, g_1_1, g_1_2, g_1_3, g_1_4, g_1_5, g_1_6, g_1_7, g_1_8, g_1_9, r_2, r_3, r_4, r_5, r_6, r_7, r_8, o_9, g_9_0, g_9_1, g_9_2, g_9_3, g_9_4, g_9_5, g_9_6, g_9_7, g_9_8, g_9_9, r_10, r_11, r_12, r_13, r_14, r_15, r_16, o_17, g_17_0, g_17_1, g_17_2, g_17_3, g_17_4, r_18, r_19, r_20, r_22, r_23, r_24, r_25, r_26, r_27, r_28, o_29, g_29_0, g_29_1, g_29_2, g_29_3, g_29_4, g_29_5, g_29_6, g_29_7, g_29_8, g_29_9, r_30, r_31, r_32, r_33, r_34, r_35, r_36, o_37, g_37_0, g_37_1, g_37_2, g_37_3, g_37_4, g_37_5, g_37_6, g_37_7, g_37_8, g_37_9, r_38, r_39, r_40, r_41, r_42, r_43, r_44, o_45, g_45_0, g_45_1, g_45_2, g_45_3, g_45_4, g_45_5, g_45_6, g_45_7, g_45_8, g_45_9, r_46, r_47, r_48, r_49, r_50, r_51, r_52, o_53, g_53_0, g_53_1, g_53_2, g_53_3, g_53_4, g_53_5, g_53_6, g_53_7, g_53_8, g_53_9, r_54, r_55, r_56, r_57, r_58, r_59, r_60, o_61, g_61_0, g_61_1, g_61_2, g_61_3, g_61_4, g_61_5, g_61_6, g_61_7, g_61_8, g_61_9, g_61_10, g_61_11, g_61_12, g_61_13, g_61_14, g_61_15, g_61_16, g_61_17, g_61_18, g_61_19, g_61_20, g_61_21, g_61_22, g_61_23, r_62, r_63, r_64, r_65, r_66, r_67, r_68, r_69, r_70, r_71, r_72, r_73, r_74, r_75, r_76, r_77, Option.bind_some, rt_y hn hL ht, bindT, if_neg (show ¬ nI (3 + 3) = (0 : Int32) by decide), if_neg (show ¬ nI (3 + 3) = (1 : Int32) by decide), if_neg (show ¬ nI (3 + 3) = (2 : Int32) by decide), if_neg (show ¬ nI (3 + 3) = (3 : Int32) by decide), if_neg (show ¬ nI (3 + 3) = (4 : Int32) by decide), if_neg (show ¬ nI (3 + 3) = (5 : Int32) by decide), if_pos (show nI (3 + 3) = (6 : Int32) from rfl)]
    rw [show m.I 13 t = _ from z.2.2.2.1]
theorem m_tv {m : Mem} {t i : Nat} (ht : t < 56) (hi : i < 4) : f_X4_value 61 (nI t) (nI (3 + i)) (HH m) = some (m.I 62 (3 + 4 * t + i)) := by
  have e : i = 0 ∨ i = 1 ∨ i = 2 ∨ i = 3 := by omega
  rcases e with rfl | rfl | rfl | rfl
  · simp only [f_X4_value, o_0, g_0_0, g_0_1, g_0_2, g_0_3, g_0_4, g_0_5, g_0_6, g_0_7, g_0_8, g_0_9, g_0_10, g_0_11, o_1, g_1_0, g_1_1, g_1_2, g_1_3, g_1_4, g_1_5, g_1_6, g_1_7, g_1_8, g_1_9, r_2, r_3, r_4, r_5, r_6, r_7, r_8, o_9, g_9_0, g_9_1, g_9_2, g_9_3, g_9_4, g_9_5, g_9_6, g_9_7, g_9_8, g_9_9, r_10, r_11, r_12, r_13, r_14, r_15, r_16, o_17, g_17_0, g_17_1, g_17_2, g_17_3, g_17_4, r_18, r_19, r_20, r_22, r_23, r_24, r_25, r_26, r_27, r_28, o_29, g_29_0, g_29_1, g_29_2, g_29_3, g_29_4, g_29_5, g_29_6, g_29_7, g_29_8, g_29_9, r_30, r_31, r_32, r_33, r_34, r_35, r_36, o_37, g_37_0, g_37_1, g_37_2, g_37_3, g_37_4, g_37_5, g_37_6, g_37_7, g_37_8, g_37_9, r_38, r_39, r_40, r_41, r_42, r_43, r_44, o_45, g_45_0, g_45_1, g_45_2, g_45_3, g_45_4, g_45_5, g_45_6, g_45_7, g_45_8, g_45_9, r_46, r_47, r_48, r_49, r_50, r_51, r_52, o_53, g_53_0, g_53_1, g_53_2, g_53_3, g_53_4, g_53_5, g_53_6, g_53_7, g_53_8, g_53_9, r_54, r_55, r_56, r_57, r_58, r_59, r_60, o_61, g_61_0, g_61_1, g_61_2, g_61_3, g_61_4, g_61_5, g_61_6, g_61_7, g_61_8, g_61_9, g_61_10, g_61_11, g_61_12, g_61_13, g_61_14, g_61_15, g_61_16, g_61_17, g_61_18, g_61_19, g_61_20, g_61_21, g_61_22, g_61_23, r_62, r_63, r_64, r_65, r_66, r_67, r_68, r_69, r_70, r_71, r_72, r_73, r_74, r_75, r_76, r_77, Option.bind_some, if_pos (show (3 : Int32) ≤ nI (3 + 0) by decide), show nI (3 + 0) - (3 : Int32) = 0 from rfl, get_0 m ht, Nat.add_zero]
  · simp only [f_X4_value, o_0, g_0_0, g_0_1, g_0_2, g_0_3, g_0_4, g_0_5, g_0_6, g_0_7, g_0_8, g_0_9, g_0_10, g_0_11, o_1, g_1_0, g_1_1, g_1_2, g_1_3, g_1_4, g_1_5, g_1_6, g_1_7, g_1_8, g_1_9, r_2, r_3, r_4, r_5, r_6, r_7, r_8, o_9, g_9_0, g_9_1, g_9_2, g_9_3, g_9_4, g_9_5, g_9_6, g_9_7, g_9_8, g_9_9, r_10, r_11, r_12, r_13, r_14, r_15, r_16, o_17, g_17_0, g_17_1, g_17_2, g_17_3, g_17_4, r_18, r_19, r_20, r_22, r_23, r_24, r_25, r_26, r_27, r_28, o_29, g_29_0, g_29_1, g_29_2, g_29_3, g_29_4, g_29_5, g_29_6, g_29_7, g_29_8, g_29_9, r_30, r_31, r_32, r_33, r_34, r_35, r_36, o_37, g_37_0, g_37_1, g_37_2, g_37_3, g_37_4, g_37_5, g_37_6, g_37_7, g_37_8, g_37_9, r_38, r_39, r_40, r_41, r_42, r_43, r_44, o_45, g_45_0, g_45_1, g_45_2, g_45_3, g_45_4, g_45_5, g_45_6, g_45_7, g_45_8, g_45_9, r_46, r_47, r_48, r_49, r_50, r_51, r_52, o_53, g_53_0, g_53_1, g_53_2, g_53_3, g_53_4, g_53_5, g_53_6, g_53_7, g_53_8, g_53_9, r_54, r_55, r_56, r_57, r_58, r_59, r_60, o_61, g_61_0, g_61_1, g_61_2, g_61_3, g_61_4, g_61_5, g_61_6, g_61_7, g_61_8, g_61_9, g_61_10, g_61_11, g_61_12, g_61_13, g_61_14, g_61_15, g_61_16, g_61_17, g_61_18, g_61_19, g_61_20, g_61_21, g_61_22, g_61_23, r_62, r_63, r_64, r_65, r_66, r_67, r_68, r_69, r_70, r_71, r_72, r_73, r_74, r_75, r_76, r_77, Option.bind_some, if_pos (show (3 : Int32) ≤ nI (3 + 1) by decide), show nI (3 + 1) - (3 : Int32) = 1 from rfl, get_1 m ht]
  · simp only [f_X4_value, o_0, g_0_0, g_0_1, g_0_2, g_0_3, g_0_4, g_0_5, g_0_6, g_0_7, g_0_8, g_0_9, g_0_10, g_0_11, o_1, g_1_0, g_1_1, g_1_2, g_1_3, g_1_4, g_1_5, g_1_6, g_1_7, g_1_8, g_1_9, r_2, r_3, r_4, r_5, r_6, r_7, r_8, o_9, g_9_0, g_9_1, g_9_2, g_9_3, g_9_4, g_9_5, g_9_6, g_9_7, g_9_8, g_9_9, r_10, r_11, r_12, r_13, r_14, r_15, r_16, o_17, g_17_0, g_17_1, g_17_2, g_17_3, g_17_4, r_18, r_19, r_20, r_22, r_23, r_24, r_25, r_26, r_27, r_28, o_29, g_29_0, g_29_1, g_29_2, g_29_3, g_29_4, g_29_5, g_29_6, g_29_7, g_29_8, g_29_9, r_30, r_31, r_32, r_33, r_34, r_35, r_36, o_37, g_37_0, g_37_1, g_37_2, g_37_3, g_37_4, g_37_5, g_37_6, g_37_7, g_37_8, g_37_9, r_38, r_39, r_40, r_41, r_42, r_43, r_44, o_45, g_45_0, g_45_1, g_45_2, g_45_3, g_45_4, g_45_5, g_45_6, g_45_7, g_45_8, g_45_9, r_46, r_47, r_48, r_49, r_50, r_51, r_52, o_53, g_53_0, g_53_1, g_53_2, g_53_3, g_53_4, g_53_5, g_53_6, g_53_7, g_53_8, g_53_9, r_54, r_55, r_56, r_57, r_58, r_59, r_60, o_61, g_61_0, g_61_1, g_61_2, g_61_3, g_61_4, g_61_5, g_61_6, g_61_7, g_61_8, g_61_9, g_61_10, g_61_11, g_61_12, g_61_13, g_61_14, g_61_15, g_61_16, g_61_17, g_61_18, g_61_19, g_61_20, g_61_21, g_61_22, g_61_23, r_62, r_63, r_64, r_65, r_66, r_67, r_68, r_69, r_70, r_71, r_72, r_73, r_74, r_75, r_76, r_77, Option.bind_some, if_pos (show (3 : Int32) ≤ nI (3 + 2) by decide), show nI (3 + 2) - (3 : Int32) = 2 from rfl, get_2 m ht]
  · simp only [f_X4_value, o_0, g_0_0, g_0_1, g_0_2, g_0_3, g_0_4, g_0_5, g_0_6, g_0_7, g_0_8, g_0_9, g_0_10, g_0_11, o_1, g_1_0, g_1_1, g_1_2, g_1_3, g_1_4, g_1_5, g_1_6, g_1_7, g_1_8, g_1_9, r_2, r_3, r_4, r_5, r_6, r_7, r_8, o_9, g_9_0, g_9_1, g_9_2, g_9_3, g_9_4, g_9_5, g_9_6, g_9_7, g_9_8, g_9_9, r_10, r_11, r_12, r_13, r_14, r_15, r_16, o_17, g_17_0, g_17_1, g_17_2, g_17_3, g_17_4, r_18, r_19, r_20, r_22, r_23, r_24, r_25, r_26, r_27, r_28, o_29, g_29_0, g_29_1, g_29_2, g_29_3, g_29_4, g_29_5, g_29_6, g_29_7, g_29_8, g_29_9, r_30, r_31, r_32, r_33, r_34, r_35, r_36, o_37, g_37_0, g_37_1, g_37_2, g_37_3, g_37_4, g_37_5, g_37_6, g_37_7, g_37_8, g_37_9, r_38, r_39, r_40, r_41, r_42, r_43, r_44, o_45, g_45_0, g_45_1, g_45_2, g_45_3, g_45_4, g_45_5, g_45_6, g_45_7, g_45_8, g_45_9, r_46, r_47, r_48, r_49, r_50, r_51, r_52, o_53, g_53_0, g_53_1, g_53_2, g_53_3, g_53_4, g_53_5, g_53_6, g_53_7, g_53_8, g_53_9, r_54, r_55, r_56, r_57, r_58, r_59, r_60, o_61, g_61_0, g_61_1, g_61_2, g_61_3, g_61_4, g_61_5, g_61_6, g_61_7, g_61_8, g_61_9, g_61_10, g_61_11, g_61_12, g_61_13, g_61_14, g_61_15, g_61_16, g_61_17, g_61_18, g_61_19, g_61_20, g_61_21, g_61_22, g_61_23, r_62, r_63, r_64, r_65, r_66, r_67, r_68, r_69, r_70, r_71, r_72, r_73, r_74, r_75, r_76, r_77, Option.bind_some, if_pos (show (3 : Int32) ≤ nI (3 + 3) by decide), show nI (3 + 3) - (3 : Int32) = 3 from rfl, get_3 m ht]
/-! the class's digest -/
theorem c_dC {n : Nat} {m : Mem} {s : Nat → Int32} {M : Nat → Int64} (g : GG n s M) (hL : LC n m) (hs : RS 9 m s M) (h : Int64) : l_X3_digest_33 0 (HH m) FU h 0 = some (.inl (itD (dC n s) h 10)) := by
  have key : ∃ b, l_X3_digest_33 0 (HH m) FU h (nI 0) = some b ∧ b = .inl (itD (dC n s) h 10) := by
    refine loopR (fun fuel (a : Int64 × Int32) => l_X3_digest_33 0 (HH m) fuel a.1 a.2) (fun k a => a = (itD (dC n s) h k, nI k)) _ 10 ?_ ?_ 10 0 (h, nI 0) FU (by omega) (FUx (by omega)) rfl
    · rintro k a fuel hk rfl
      refine Or.inl ⟨(itD (dC n s) h (k + 1), nI (k + 1)), ?_, rfl⟩
      show l_X3_digest_33 0 (HH m) (fuel + 1) (itD (dC n s) h k) (nI k) = _
      have lt : ¬ (9 : Int32) < nI k := by
        have e : k = 0 ∨ k = 1 ∨ k = 2 ∨ k = 3 ∨ k = 4 ∨ k = 5 ∨ k = 6 ∨ k = 7 ∨ k = 8 ∨ k = 9 := by omega
        rcases e with rfl | rfl | rfl | rfl | rfl | rfl | rfl | rfl | rfl | rfl <;> decide
      rw [l_X3_digest_33, if_neg lt, c_count g hL hs (by omega), add_1]
      rfl
    · rintro a fuel rfl
      exact ⟨_, by show l_X3_digest_33 0 (HH m) (fuel + 1) (itD (dC n s) h 10) (nI 10) = _
                   rw [l_X3_digest_33, if_pos (by decide)], rfl⟩
  obtain ⟨b, e, rfl⟩ := key
  exact e
theorem c_dV {n : Nat} (hn : n38 n) {m : Mem} (hL : LC n m) {s : Nat → Int32} {M : Nat → Int64} (hs : RS 9 m s M) {t : Nat} (ht : t < nT n) (h : Int64) : l_X3_digest_74 0 (nI t) (HH m) FU h 3 = some (.inl (itD (dV s t) h 4)) := by
  have key : ∃ b, l_X3_digest_74 0 (nI t) (HH m) FU h (nI (3 + 0)) = some b ∧ b = .inl (itD (dV s t) h 4) := by
    refine loopR (fun fuel (a : Int64 × Int32) => l_X3_digest_74 0 (nI t) (HH m) fuel a.1 a.2) (fun k a => a = (itD (dV s t) h k, nI (3 + k))) _ 4 ?_ ?_ 4 0 (h, nI (3 + 0)) FU (by omega) (FUx (by omega)) rfl
    · rintro k a fuel hk rfl
      refine Or.inl ⟨(itD (dV s t) h (k + 1), nI (3 + (k + 1))), ?_, rfl⟩
      show l_X3_digest_74 0 (nI t) (HH m) (fuel + 1) (itD (dV s t) h k) (nI (3 + k)) = _
      have lt : ¬ (6 : Int32) < nI (3 + k) := by
        have e : k = 0 ∨ k = 1 ∨ k = 2 ∨ k = 3 := by omega
        rcases e with rfl | rfl | rfl | rfl <;> decide
      rw [l_X3_digest_74, if_neg lt, c_tv hn hL hs ht hk, add_1]
      rfl
    · rintro a fuel rfl
      exact ⟨_, by show l_X3_digest_74 0 (nI t) (HH m) (fuel + 1) (itD (dV s t) h 4) (nI (3 + 4)) = _
                   rw [l_X3_digest_74, if_pos (by decide)], rfl⟩
  obtain ⟨b, e, rfl⟩ := key
  exact e
theorem c_dT {n : Nat} (hn : n38 n) {m : Mem} (hL : LC n m) {s : Nat → Int32} {M : Nat → Int64} (hs : RS 9 m s M) (h : Int64) : l_X3_digest_60 0 (HH m) FU h 0 = some (.inl (itD (dT s M) h (nT n))) := by
  have hT := nT_le hn
  have key : ∃ b, l_X3_digest_60 0 (HH m) FU h (nI 0) = some b ∧ b = .inl (itD (dT s M) h (nT n)) := by
    refine loopR (fun fuel (a : Int64 × Int32) => l_X3_digest_60 0 (HH m) fuel a.1 a.2) (fun k a => a = (itD (dT s M) h k, nI k)) _ (nT n) ?_ ?_ (nT n) 0 (h, nI 0) FU (by omega) (FUx (by omega)) rfl
    · rintro k a fuel hk rfl
      refine Or.inl ⟨(itD (dT s M) h (k + 1), nI (k + 1)), ?_, rfl⟩
      show l_X3_digest_60 0 (HH m) (fuel + 1) (itD (dT s M) h k) (nI k) = _
      have z : m.J 14 k = M k := (hs.2.2.2.1 k (by omega)).2.2.2.2
      have er : f_X3_reasons 0 (nI k) (HH m) = some (.inr (M k)) := by
        simp (disch := omega) only [f_X3_reasons, o_0, g_0_0, g_0_1, g_0_2, g_0_3, g_0_4, g_0_5, g_0_6, g_0_7, g_0_8, g_0_9, g_0_10, g_0_11, o_1, g_1_0, g_1_1, g_1_2, g_1_3, g_1_4, g_1_5, g_1_6, g_1_7, g_1_8, g_1_9, r_2, r_3, r_4, r_5, r_6, r_7, r_8, o_9, g_9_0, g_9_1, g_9_2, g_9_3, g_9_4, g_9_5, g_9_6, g_9_7, g_9_8, g_9_9, r_10, r_11, r_12, r_13, r_14, r_15, r_16, o_17, g_17_0, g_17_1, g_17_2, g_17_3, g_17_4, r_18, r_19, r_20, r_22, r_23, r_24, r_25, r_26, r_27, r_28, o_29, g_29_0, g_29_1, g_29_2, g_29_3, g_29_4, g_29_5, g_29_6, g_29_7, g_29_8, g_29_9, r_30, r_31, r_32, r_33, r_34, r_35, r_36, o_37, g_37_0, g_37_1, g_37_2, g_37_3, g_37_4, g_37_5, g_37_6, g_37_7, g_37_8, g_37_9, r_38, r_39, r_40, r_41, r_42, r_43, r_44, o_45, g_45_0, g_45_1, g_45_2, g_45_3, g_45_4, g_45_5, g_45_6, g_45_7, g_45_8, g_45_9, r_46, r_47, r_48, r_49, r_50, r_51, r_52, o_53, g_53_0, g_53_1, g_53_2, g_53_3, g_53_4, g_53_5, g_53_6, g_53_7, g_53_8, g_53_9, r_54, r_55, r_56, r_57, r_58, r_59, r_60, o_61, g_61_0, g_61_1, g_61_2, g_61_3, g_61_4, g_61_5, g_61_6, g_61_7, g_61_8, g_61_9, g_61_10, g_61_11, g_61_12, g_61_13, g_61_14, g_61_15, g_61_16, g_61_17, g_61_18, g_61_19, g_61_20, g_61_21, g_61_22, g_61_23, r_62, r_63, r_64, r_65, r_66, r_67, r_68, r_69, r_70, r_71, r_72, r_73, r_74, r_75, r_76, r_77, Option.bind_some, rt_y hn hL hk, bindT, z]
      rw [l_X3_digest_60]
      simp only [g_0_0, g_1_1, Option.bind_some, hL.2.1, if_neg (nle_of (show nT n < 2 ^ 31 by omega) hk), c_dV hn hL hs hk, bindQ1, er, bindT, add_1]
      rfl
    · rintro a fuel rfl
      refine ⟨_, ?_, rfl⟩
      show l_X3_digest_60 0 (HH m) (fuel + 1) (itD (dT s M) h (nT n)) (nI (nT n)) = _
      rw [l_X3_digest_60]
      simp only [g_0_0, g_1_1, Option.bind_some, hL.2.1, if_pos (Int32.le_refl (nI (nT n)))]
  obtain ⟨b, e, rfl⟩ := key
  exact e
theorem c_dR {n : Nat} (hn : n38 n) {m : Mem} (hL : LC n m) {s : Nat → Int32} {M : Nat → Int64} (hs : RS 9 m s M) (h : Int64) : l_X3_digest_122 0 (HH m) FU h 0 = some (.inl (itD (dR n s) h (nR n))) := by
  have hR := nR_le hn
  have key : ∃ b, l_X3_digest_122 0 (HH m) FU h (nI 0) = some b ∧ b = .inl (itD (dR n s) h (nR n)) := by
    refine loopR (fun fuel (a : Int64 × Int32) => l_X3_digest_122 0 (HH m) fuel a.1 a.2) (fun k a => a = (itD (dR n s) h k, nI k)) _ (nR n) ?_ ?_ (nR n) 0 (h, nI 0) FU (by omega) (FUx (by omega)) rfl
    · rintro k a fuel hk rfl
      refine Or.inl ⟨(itD (dR n s) h (k + 1), nI (k + 1)), ?_, rfl⟩
      show l_X3_digest_122 0 (HH m) (fuel + 1) (itD (dR n s) h k) (nI k) = _
      have e5 : f_X3_relation 0 (nI k) 5 (HH m) = _ := c_relation hn hL hs hk (i := 5) (by omega)
      have e6 : f_X3_relation 0 (nI k) 6 (HH m) = _ := c_relation hn hL hs hk (i := 6) (by omega)
      rw [l_X3_digest_122]
      simp only [g_0_0, g_1_2, Option.bind_some, hL.2.2.1, if_neg (nle_of (show nR n < 2 ^ 31 by omega) hk), e5, e6, bindT, add_1]
      rfl
    · rintro a fuel rfl
      refine ⟨_, ?_, rfl⟩
      show l_X3_digest_122 0 (HH m) (fuel + 1) (itD (dR n s) h (nR n)) (nI (nR n)) = _
      rw [l_X3_digest_122]
      simp only [g_0_0, g_1_2, Option.bind_some, hL.2.2.1, if_pos (Int32.le_refl (nI (nR n)))]
  obtain ⟨b, e, rfl⟩ := key
  exact e
theorem c_dP {n : Nat} (hn : n38 n) {m : Mem} (hL : LC n m) {s : Nat → Int32} {M : Nat → Int64} (hs : RS 9 m s M) (h : Int64) : l_X3_digest_170 0 (HH m) FU h 0 = some (.inl (itD (dP n s) h n)) := by
  have h8 := hn.2
  have key : ∃ b, l_X3_digest_170 0 (HH m) FU h (nI 0) = some b ∧ b = .inl (itD (dP n s) h n) := by
    refine loopR (fun fuel (a : Int64 × Int32) => l_X3_digest_170 0 (HH m) fuel a.1 a.2) (fun k a => a = (itD (dP n s) h k, nI k)) _ n ?_ ?_ n 0 (h, nI 0) FU (by omega) (FUx (by omega)) rfl
    · rintro k a fuel hk rfl
      refine Or.inl ⟨(itD (dP n s) h (k + 1), nI (k + 1)), ?_, rfl⟩
      show l_X3_digest_170 0 (HH m) (fuel + 1) (itD (dP n s) h k) (nI k) = _
      have ex : m.I 15 k = s (227 + 2 * k) := (hs.2.2.2.2 k (by omega)).1
      have ey : m.I 16 k = s (227 + 2 * k + 1) := (hs.2.2.2.2 k (by omega)).2
      have e0 : f_X3_coordinate 0 (nI k) 0 (HH m) = some (.inr (s (227 + 2 * k))) := by
        simp (disch := omega) only [f_X3_coordinate, o_0, g_0_0, g_0_1, g_0_2, g_0_3, g_0_4, g_0_5, g_0_6, g_0_7, g_0_8, g_0_9, g_0_10, g_0_11, o_1, g_1_0, g_1_1, g_1_2, g_1_3, g_1_4, g_1_5, g_1_6, g_1_7, g_1_8, g_1_9, r_2, r_3, r_4, r_5, r_6, r_7, r_8, o_9, g_9_0, g_9_1, g_9_2, g_9_3, g_9_4, g_9_5, g_9_6, g_9_7, g_9_8, g_9_9, r_10, r_11, r_12, r_13, r_14, r_15, r_16, o_17, g_17_0, g_17_1, g_17_2, g_17_3, g_17_4, r_18, r_19, r_20, r_22, r_23, r_24, r_25, r_26, r_27, r_28, o_29, g_29_0, g_29_1, g_29_2, g_29_3, g_29_4, g_29_5, g_29_6, g_29_7, g_29_8, g_29_9, r_30, r_31, r_32, r_33, r_34, r_35, r_36, o_37, g_37_0, g_37_1, g_37_2, g_37_3, g_37_4, g_37_5, g_37_6, g_37_7, g_37_8, g_37_9, r_38, r_39, r_40, r_41, r_42, r_43, r_44, o_45, g_45_0, g_45_1, g_45_2, g_45_3, g_45_4, g_45_5, g_45_6, g_45_7, g_45_8, g_45_9, r_46, r_47, r_48, r_49, r_50, r_51, r_52, o_53, g_53_0, g_53_1, g_53_2, g_53_3, g_53_4, g_53_5, g_53_6, g_53_7, g_53_8, g_53_9, r_54, r_55, r_56, r_57, r_58, r_59, r_60, o_61, g_61_0, g_61_1, g_61_2, g_61_3, g_61_4, g_61_5, g_61_6, g_61_7, g_61_8, g_61_9, g_61_10, g_61_11, g_61_12, g_61_13, g_61_14, g_61_15, g_61_16, g_61_17, g_61_18, g_61_19, g_61_20, g_61_21, g_61_22, g_61_23, r_62, r_63, r_64, r_65, r_66, r_67, r_68, r_69, r_70, r_71, r_72, r_73, r_74, r_75, r_76, r_77, Option.bind_some, rp_y hn hL hk, bindT, if_neg (show ¬ (0 : Int32) < 0 by decide), if_pos (show (0 : Int32) ≤ 1 by decide), if_true, ex]
      have e1 : f_X3_coordinate 0 (nI k) 1 (HH m) = some (.inr (s (227 + 2 * k + 1))) := by
        simp (disch := omega) only [f_X3_coordinate, o_0, g_0_0, g_0_1, g_0_2, g_0_3, g_0_4, g_0_5, g_0_6, g_0_7, g_0_8, g_0_9, g_0_10, g_0_11, o_1, g_1_0, g_1_1, g_1_2, g_1_3, g_1_4, g_1_5, g_1_6, g_1_7, g_1_8, g_1_9, r_2, r_3, r_4, r_5, r_6, r_7, r_8, o_9, g_9_0, g_9_1, g_9_2, g_9_3, g_9_4, g_9_5, g_9_6, g_9_7, g_9_8, g_9_9, r_10, r_11, r_12, r_13, r_14, r_15, r_16, o_17, g_17_0, g_17_1, g_17_2, g_17_3, g_17_4, r_18, r_19, r_20, r_22, r_23, r_24, r_25, r_26, r_27, r_28, o_29, g_29_0, g_29_1, g_29_2, g_29_3, g_29_4, g_29_5, g_29_6, g_29_7, g_29_8, g_29_9, r_30, r_31, r_32, r_33, r_34, r_35, r_36, o_37, g_37_0, g_37_1, g_37_2, g_37_3, g_37_4, g_37_5, g_37_6, g_37_7, g_37_8, g_37_9, r_38, r_39, r_40, r_41, r_42, r_43, r_44, o_45, g_45_0, g_45_1, g_45_2, g_45_3, g_45_4, g_45_5, g_45_6, g_45_7, g_45_8, g_45_9, r_46, r_47, r_48, r_49, r_50, r_51, r_52, o_53, g_53_0, g_53_1, g_53_2, g_53_3, g_53_4, g_53_5, g_53_6, g_53_7, g_53_8, g_53_9, r_54, r_55, r_56, r_57, r_58, r_59, r_60, o_61, g_61_0, g_61_1, g_61_2, g_61_3, g_61_4, g_61_5, g_61_6, g_61_7, g_61_8, g_61_9, g_61_10, g_61_11, g_61_12, g_61_13, g_61_14, g_61_15, g_61_16, g_61_17, g_61_18, g_61_19, g_61_20, g_61_21, g_61_22, g_61_23, r_62, r_63, r_64, r_65, r_66, r_67, r_68, r_69, r_70, r_71, r_72, r_73, r_74, r_75, r_76, r_77, Option.bind_some, rp_y hn hL hk, bindT, if_neg (show ¬ (1 : Int32) < 0 by decide), if_pos (show (1 : Int32) ≤ 1 by decide), if_neg (show ¬ (1 : Int32) = 0 by decide), ey]
      have eb : (if b01 (exQ n s k n) = 0 then some (0 : Int32) else some 1) = some (b01 (exQ n s k n)) := by
        unfold b01
        split <;> rfl
      rw [l_X3_digest_170]
      simp only [g_0_0, g_1_0, Option.bind_some, hL.1, if_neg (nle_of (show n < 2 ^ 31 by omega) hk), c_ext hn hL hs hk, eb, e0, e1, bindT, add_1]
      rfl
    · rintro a fuel rfl
      refine ⟨_, ?_, rfl⟩
      show l_X3_digest_170 0 (HH m) (fuel + 1) (itD (dP n s) h n) (nI n) = _
      rw [l_X3_digest_170]
      simp only [g_0_0, g_1_0, Option.bind_some, hL.1, if_pos (Int32.le_refl (nI n))]
  obtain ⟨b, e, rfl⟩ := key
  exact e
theorem c_digest {n : Nat} {m : Mem} {s : Nat → Int32} {M : Nat → Int64} {q tl : Nat} (g : GG n s M) (hL : LC n m) (hs : RS 9 m s M) (hq : m.I 0 4 = nI q) (ht : m.I 17 1 = nI tl) : f_X3_digest 0 (HH m) = some (.inr (dA n s M q tl)) := by
  have hn := g.1
  unfold f_X3_digest
  simp only [o_0, g_0_4, g_0_2, g_17_1, Option.bind_some, hq, ht, c_dC g hL hs, c_dT hn hL hs, c_dR hn hL hs, c_dP hn hL hs, bindR1, c_mism hn hL hs]
  rfl
/-! the reference's digest -/
theorem m_mix (m : Mem) (v : Int64) : f_X4_mix 61 v (HH m) = some (HH (m.sJ 61 23 ((31 : Int64) * m.J 61 23 + v))) := by
  simp only [f_X4_mix, o_61, g_61_23, p_61_23, Option.bind_some]
theorem J23 (m : Mem) (v : Int64) : (m.sJ 61 23 v).J 61 23 = v := by
  show (if 61 = 61 then vp_updL (m.J 61) 23 v else m.J 61) 23 = v
  rw [if_pos rfl, updL_g, if_pos rfl]
def hF (m m1 : Mem) : Prop := (∀ a, ¬ cY a → m1.I a = m.I a ∧ (a ≠ 61 → m1.J a = m.J a)) ∧ m1.V = m.V
theorem hF_rf (m : Mem) : hF m m := ⟨fun _ _ => ⟨rfl, fun _ => rfl⟩, rfl⟩
theorem hF_tr {m m1 m2 : Mem} (h : hF m m1) (h2 : hF m1 m2) : hF m m2 := ⟨fun a ha => ⟨((h2.1 a ha).1).trans (h.1 a ha).1, fun k => ((h2.1 a ha).2 k).trans ((h.1 a ha).2 k)⟩, h2.2.trans h.2⟩
theorem hF_Y {m m1 : Mem} (f : Fr cY m m1) : hF m m1 := ⟨fun a ha => ⟨(f.1 a ha).1, fun _ => (f.1 a ha).2⟩, f.2⟩
theorem hF_K {m m1 : Mem} (f : Fr cK m m1) : hF m m1 := hF_Y (Fr_w (d := cY) f (fun a h => by unfold cK at h; unfold cY; omega))
theorem hF_J (m : Mem) (v : Int64) : hF m (m.sJ 61 23 v) := ⟨fun a _ => ⟨rfl, fun k => by rw [sJ_J, if_neg k]⟩, rfl⟩
theorem hF_62 {m m1 : Mem} (f : hF m m1) : m1.I 62 = m.I 62 := (f.1 62 (by unfold cY; omega)).1
theorem hF_61 {m m1 : Mem} (f : hF m m1) : m1.I 61 = m.I 61 := (f.1 61 (by unfold cY; omega)).1
theorem LM_D {n : Nat} {m m1 : Mem} (h : LM n m) (f : hF m m1) : LM n m1 := LM_fr h (by rw [hF_61 f]) (by rw [hF_61 f]) (f.1 66 (by unfold cY; omega)).1 (f.1 67 (by unfold cY; omega)).1 (f.1 68 (by unfold cY; omega)).1
theorem DD_D {n : Nat} {s : Nat → Int32} {q : Nat} {P : Nat → Nat → Int32} {tl : Nat} {tx : Nat → Int32} {m m1 : Mem} (h : DD n s q P tl tx m) (f : hF m m1) : DD n s q P tl tx m1 :=
  DD_w h (fun k _ => by rw [hF_61 f]) (fun a h1 h2 h3 => (f.1 a (by unfold cY; omega)).1) (by rw [hF_62 f]; exact h.2.1)
theorem up_D {m m1 : Mem} (f : hF m m1) : upM m m1 := ⟨fun a ha => ⟨(f.1 a (by unfold cY; omega)).1, (f.1 a (by unfold cY; omega)).2 (by omega)⟩, f.2⟩
theorem m_mixW (m : Mem) (v : Int32) : f_X4_mix 61 v.toInt64 (HH m) = some (HH (m.sJ 61 23 (mxW (m.J 61 23) v))) := m_mix m v.toInt64
section Dig
variable {n : Nat} {m : Mem} {M : Nat → Int64}
theorem m_dC (g : GG n (m.I 62) M) (hL : LM n m) : ∃ m1, l_X4_digest_32 61 FU 0 (HH m) = some (HH m1) ∧ hF m m1 ∧ m1.J 61 23 = itD (dC n (m.I 62)) (m.J 61 23) 10 := by
  have key : ∃ b, l_X4_digest_32 61 FU (nI 0) (HH m) = some b ∧ (∃ m1, b = HH m1 ∧ hF m m1 ∧ m1.J 61 23 = itD (dC n (m.I 62)) (m.J 61 23) 10) := by
    refine loopR (fun fuel (a : Int32 × Hp) => l_X4_digest_32 61 fuel a.1 a.2) (fun k a => ∃ mk, a = (nI k, HH mk) ∧ hF m mk ∧ mk.J 61 23 = itD (dC n (m.I 62)) (m.J 61 23) k) _ 10 ?_ ?_ 10 0 (nI 0, HH m) FU (by omega) (FUx (by omega)) ⟨m, rfl, hF_rf m, rfl⟩
    · rintro k a fuel hk ⟨mk, rfl, f, v⟩
      obtain ⟨m2, e2, f2⟩ := m_counted (m := mk) (M := M) (by rw [hF_62 f]; exact g) (LM_D hL f) (i := k) (by omega)
      rw [hF_62 f] at e2
      have j2 : m2.J 61 23 = itD (dC n (m.I 62)) (m.J 61 23) k := by rw [(f2.1 61 (by unfold cK; omega)).2, v]
      refine Or.inl ⟨(nI (k + 1), HH (m2.sJ 61 23 (itD (dC n (m.I 62)) (m.J 61 23) (k + 1)))), ?_, _, rfl, hF_tr f (hF_tr (hF_K f2) (hF_J m2 _)), J23 _ _⟩
      show l_X4_digest_32 61 (fuel + 1) (nI k) (HH mk) = _
      rw [l_X4_digest_32, if_neg (show ¬ (10 : Int32) ≤ nI k from nle_of (b := 10) (by omega) hk), e2]
      simp only [bind2, m_mixW, j2, add_1, Option.bind_some]
      rfl
    · rintro a fuel ⟨mk, rfl, f, v⟩
      refine ⟨_, ?_, mk, rfl, f, v⟩
      show l_X4_digest_32 61 (fuel + 1) (nI 10) (HH mk) = _
      rw [l_X4_digest_32, if_pos (by decide)]
  obtain ⟨b, e, m1, rfl, f, v⟩ := key
  exact ⟨m1, e, f, v⟩
theorem m_dV (m : Mem) {t : Nat} (ht : t < 56) : ∃ m1, l_X4_digest_70 61 (nI t) FU 3 (HH m) = some (HH m1) ∧ hF m m1 ∧ m1.J 72 = m.J 72 ∧ m1.J 61 23 = itD (dV (m.I 62) t) (m.J 61 23) 4 := by
  have key : ∃ b, l_X4_digest_70 61 (nI t) FU (nI (3 + 0)) (HH m) = some b ∧ (∃ m1, b = HH m1 ∧ hF m m1 ∧ m1.J 72 = m.J 72 ∧ m1.J 61 23 = itD (dV (m.I 62) t) (m.J 61 23) 4) := by
    refine loopR (fun fuel (a : Int32 × Hp) => l_X4_digest_70 61 (nI t) fuel a.1 a.2) (fun k a => ∃ mk, a = (nI (3 + k), HH mk) ∧ hF m mk ∧ mk.J 72 = m.J 72 ∧ mk.J 61 23 = itD (dV (m.I 62) t) (m.J 61 23) k) _ 4 ?_ ?_ 4 0 (nI (3 + 0), HH m) FU (by omega) (FUx (by omega)) ⟨m, rfl, hF_rf m, rfl, rfl⟩
    · rintro k a fuel hk ⟨mk, rfl, f, z, v⟩
      have e2 := m_tv (m := mk) ht hk
      rw [hF_62 f] at e2
      refine Or.inl ⟨(nI (3 + (k + 1)), HH (mk.sJ 61 23 (itD (dV (m.I 62) t) (m.J 61 23) (k + 1)))), ?_, _, rfl, hF_tr f (hF_J mk _), (by rw [sJ_J, if_neg (by omega)]; exact z), J23 _ _⟩
      show l_X4_digest_70 61 (nI t) (fuel + 1) (nI (3 + k)) (HH mk) = _
      rw [l_X4_digest_70, if_neg (show ¬ (7 : Int32) ≤ nI (3 + k) from nle_of (b := 7) (by omega) (show 3 + k < 7 by omega)), e2, Option.bind_some, m_mixW, v, add_1]
      rfl
    · rintro a fuel ⟨mk, rfl, f, z, v⟩
      refine ⟨_, ?_, mk, rfl, f, z, v⟩
      show l_X4_digest_70 61 (nI t) (fuel + 1) (nI (3 + 4)) (HH mk) = _
      rw [l_X4_digest_70, if_pos (by decide)]
  obtain ⟨b, e, m1, rfl, f, z, v⟩ := key
  exact ⟨m1, e, f, z, v⟩
theorem m_dT (hn : n38 n) (hL : LM n m) (hM : ∀ t, t < nT n → m.J 72 t = M t) : ∃ m1, l_X4_digest_60 61 FU 0 (HH m) = some (HH m1) ∧ hF m m1 ∧ m1.J 61 23 = itD (dT (m.I 62) M) (m.J 61 23) (nT n) := by
  have hT := nT_le hn
  have key : ∃ b, l_X4_digest_60 61 FU (nI 0) (HH m) = some b ∧ (∃ m1, b = HH m1 ∧ hF m m1 ∧ m1.J 61 23 = itD (dT (m.I 62) M) (m.J 61 23) (nT n)) := by
    refine loopR (fun fuel (a : Int32 × Hp) => l_X4_digest_60 61 fuel a.1 a.2) (fun k a => ∃ mk, a = (nI k, HH mk) ∧ hF m mk ∧ mk.J 72 = m.J 72 ∧ mk.J 61 23 = itD (dT (m.I 62) M) (m.J 61 23) k) _ (nT n) ?_ ?_ (nT n) 0 (nI 0, HH m) FU (by omega) (FUx (by omega)) ⟨m, rfl, hF_rf m, rfl, rfl⟩
    · rintro k a fuel hk ⟨mk, rfl, f, z, v⟩
      obtain ⟨m2, e2, f2, z2, v2⟩ := m_dV mk (t := k) (by omega)
      have hk5 : k < 56 := by omega
      have e9 : mk.I 61 9 = nI (nT n) := by rw [hF_61 f]; exact hL.1
      have w : m2.J 72 k = M k := by rw [z2, z]; exact hM k hk
      rw [v, hF_62 f] at v2
      refine Or.inl ⟨(nI (k + 1), HH (m2.sJ 61 23 (itD (dT (m.I 62) M) (m.J 61 23) (k + 1)))), ?_, _, rfl, hF_tr f (hF_tr f2 (hF_J m2 _)), (by rw [sJ_J, if_neg (by omega), z2]; exact z), J23 _ _⟩
      show l_X4_digest_60 61 (fuel + 1) (nI k) (HH mk) = _
      rw [l_X4_digest_60]
      simp only [g_61_9, g_61_16, r_72 m2 hk5, e9, Option.bind_some, if_neg (nle_of (show nT n < 2 ^ 31 by omega) hk), e2, w, m_mix, v2, add_1]
      rfl
    · rintro a fuel ⟨mk, rfl, f, z, v⟩
      have e9 : mk.I 61 9 = nI (nT n) := by rw [hF_61 f]; exact hL.1
      refine ⟨_, ?_, mk, rfl, f, v⟩
      show l_X4_digest_60 61 (fuel + 1) (nI (nT n)) (HH mk) = _
      rw [l_X4_digest_60]
      simp only [g_61_9, Option.bind_some, e9, if_pos (Int32.le_refl (nI (nT n)))]
  obtain ⟨b, e, m1, rfl, f, v⟩ := key
  exact ⟨m1, e, f, v⟩
theorem m_dR (g : GG n (m.I 62) M) (hL : LM n m) : ∃ m1, l_X4_digest_111 61 FU 0 (HH m) = some (HH m1) ∧ hF m m1 ∧ m1.J 61 23 = itD (dR n (m.I 62)) (m.J 61 23) (nR n) := by
  have hR := nR_le g.1
  have key : ∃ b, l_X4_digest_111 61 FU (nI 0) (HH m) = some b ∧ (∃ m1, b = HH m1 ∧ hF m m1 ∧ m1.J 61 23 = itD (dR n (m.I 62)) (m.J 61 23) (nR n)) := by
    refine loopR (fun fuel (a : Int32 × Hp) => l_X4_digest_111 61 fuel a.1 a.2) (fun k a => ∃ mk, a = (nI k, HH mk) ∧ hF m mk ∧ mk.J 61 23 = itD (dR n (m.I 62)) (m.J 61 23) k) _ (nR n) ?_ ?_ (nR n) 0 (nI 0, HH m) FU (by omega) (FUx (by omega)) ⟨m, rfl, hF_rf m, rfl⟩
    · rintro k a fuel hk ⟨mk, rfl, f, v⟩
      have e11 : mk.I 61 11 = nI (nR n) := by rw [hF_61 f]; exact hL.2.1
      obtain ⟨m2, e2, f2⟩ := m_relation (m := mk) (M := M) (by rw [hF_62 f]; exact g) (LM_D hL f) hk (i := 5) (by omega)
      rw [hF_62 f] at e2
      have e2' : f_X4_relationValue 61 (nI k) 5 (HH mk) = _ := e2
      have j2 : m2.J 61 23 = itD (dR n (m.I 62)) (m.J 61 23) k := by rw [(f2.1 61 (by unfold cK; omega)).2, v]
      obtain ⟨x, ex⟩ : ∃ x, x = mxW (itD (dR n (m.I 62)) (m.J 61 23) k) (rv n (m.I 62) k 5) := ⟨_, rfl⟩
      obtain ⟨m3, e3⟩ : ∃ m3, m3 = m2.sJ 61 23 x := ⟨_, rfl⟩
      have f3 : hF m m3 := by rw [e3]; exact hF_tr f (hF_tr (hF_K f2) (hF_J m2 _))
      obtain ⟨m4, e4, f4⟩ := m_relation (m := m3) (M := M) (by rw [hF_62 f3]; exact g) (LM_D hL f3) hk (i := 6) (by omega)
      rw [hF_62 f3] at e4
      have e4' : f_X4_relationValue 61 (nI k) 6 (HH m3) = _ := e4
      have j4 : m4.J 61 23 = x := by rw [(f4.1 61 (by unfold cK; omega)).2, e3, J23]
      refine Or.inl ⟨(nI (k + 1), HH (m4.sJ 61 23 (itD (dR n (m.I 62)) (m.J 61 23) (k + 1)))), ?_, _, rfl, hF_tr f3 (hF_tr (hF_K f4) (hF_J m4 _)), J23 _ _⟩
      show l_X4_digest_111 61 (fuel + 1) (nI k) (HH mk) = _
      rw [l_X4_digest_111]
      simp only [g_61_11, e11, Option.bind_some, if_neg (nle_of (show nR n < 2 ^ 31 by omega) hk), e2', bind2, m_mixW, j2, ← ex, ← e3, e4', j4, add_1]
      rw [ex]
      rfl
    · rintro a fuel ⟨mk, rfl, f, v⟩
      have e11 : mk.I 61 11 = nI (nR n) := by rw [hF_61 f]; exact hL.2.1
      refine ⟨_, ?_, mk, rfl, f, v⟩
      show l_X4_digest_111 61 (fuel + 1) (nI (nR n)) (HH mk) = _
      rw [l_X4_digest_111]
      simp only [g_61_11, Option.bind_some, e11, if_pos (Int32.le_refl (nI (nR n)))]
  obtain ⟨b, e, m1, rfl, f, v⟩ := key
  exact ⟨m1, e, f, v⟩
theorem m_dP (g : GG n (m.I 62) M) (hL : LM n m) : ∃ m1, l_X4_digest_150 61 FU 0 (HH m) = some (HH m1) ∧ hF m m1 ∧ m1.J 61 23 = itD (dP n (m.I 62)) (m.J 61 23) n := by
  have hn := g.1
  have h8 := hn.2
  have key : ∃ b, l_X4_digest_150 61 FU (nI 0) (HH m) = some b ∧ (∃ m1, b = HH m1 ∧ hF m m1 ∧ m1.J 61 23 = itD (dP n (m.I 62)) (m.J 61 23) n) := by
    refine loopR (fun fuel (a : Int32 × Hp) => l_X4_digest_150 61 fuel a.1 a.2) (fun k a => ∃ mk, a = (nI k, HH mk) ∧ hF m mk ∧ mk.J 61 23 = itD (dP n (m.I 62)) (m.J 61 23) k) _ n ?_ ?_ n 0 (nI 0, HH m) FU (by omega) (FUx (by omega)) ⟨m, rfl, hF_rf m, rfl⟩
    · rintro k a fuel hk ⟨mk, rfl, f, v⟩
      have e62 := hF_62 f
      have h0 : mk.I 62 0 = nI n := by rw [e62]; exact g.2.1
      have ee := m_ext hn (LM_D hL f) h0 hk
      rw [e62] at ee
      obtain ⟨x1, ex1⟩ : ∃ x, x = mxW (mk.J 61 23) (b01 (exQ n (m.I 62) k n)) := ⟨_, rfl⟩
      obtain ⟨x2, ex2⟩ : ∃ x, x = mxW x1 (m.I 62 (227 + 2 * k)) := ⟨_, rfl⟩
      obtain ⟨x3, ex3⟩ : ∃ x, x = mxW x2 (m.I 62 (227 + 2 * k + 1)) := ⟨_, rfl⟩
      have eb : (if b01 (exQ n (m.I 62) k n) = 0 then some (0 : Int64) else some 1) = some (b01 (exQ n (m.I 62) k n)).toInt64 := by
        unfold b01
        split <;> rfl
      refine Or.inl ⟨(nI (k + 1), HH (((mk.sJ 61 23 x1).sJ 61 23 x2).sJ 61 23 x3)), ?_, _, rfl, hF_tr f (hF_tr (hF_J mk x1) (hF_tr (hF_J _ x2) (hF_J _ x3))), ?_⟩
      · show l_X4_digest_150 61 (fuel + 1) (nI k) (HH mk) = _
        have q1 : f_X4_mix 61 (b01 (exQ n (m.I 62) k n)).toInt64 (HH mk) = some (HH (mk.sJ 61 23 x1)) := by rw [m_mixW, ← ex1]
        have q2 : f_X4_mix 61 (m.I 62 (227 + 2 * k)).toInt64 (HH (mk.sJ 61 23 x1)) = some (HH ((mk.sJ 61 23 x1).sJ 61 23 x2)) := by rw [m_mixW, J23, ← ex2]
        have q3 : f_X4_mix 61 (m.I 62 (227 + 2 * k + 1)).toInt64 (HH ((mk.sJ 61 23 x1).sJ 61 23 x2)) = some (HH (((mk.sJ 61 23 x1).sJ 61 23 x2).sJ 61 23 x3)) := by rw [m_mixW, J23, ← ex3]
        have r1 : aI (HH (mk.sJ 61 23 x1)) 62 (nI (227 + 2 * k)) = some (m.I 62 (227 + 2 * k)) := by rw [r_62 _ (by omega), sJ_I, e62]
        have r2 : aI (HH ((mk.sJ 61 23 x1).sJ 61 23 x2)) 62 (nI (227 + 2 * k + 1)) = some (m.I 62 (227 + 2 * k + 1)) := by rw [r_62 _ (by omega), sJ_I, sJ_I, e62]
        have r0 : aI (HH mk) 62 0 = some (nI n) := by
          have := r_62 mk (i := 0) (by omega)
          rw [h0] at this
          exact this
        rw [l_X4_digest_150]
        simp only [g_61_0, r0, Option.bind_some, if_neg (nle_of (show n < 2 ^ 31 by omega) hk), ee, eb, q1, show (227 : Int32) = nI 227 from rfl, show (2 : Int32) = nI 2 from rfl, pk_mul, nI_add, r1, q2, add_1, r2, q3]
      · rw [J23, ex3, ex2, ex1, v]
        rfl
    · rintro a fuel ⟨mk, rfl, f, v⟩
      have h0 : mk.I 62 0 = nI n := by rw [hF_62 f]; exact g.2.1
      have r0 : aI (HH mk) 62 0 = some (nI n) := by
        have := r_62 mk (i := 0) (by omega)
        rw [h0] at this
        exact this
      refine ⟨_, ?_, mk, rfl, f, v⟩
      show l_X4_digest_150 61 (fuel + 1) (nI n) (HH mk) = _
      rw [l_X4_digest_150]
      simp only [g_61_0, r0, Option.bind_some, if_pos (Int32.le_refl (nI n))]
  obtain ⟨b, e, m1, rfl, f, v⟩ := key
  exact ⟨m1, e, f, v⟩
end Dig
theorem dig_g {m m2 m3 m4 m5 m6 m7 m8 m9 : Mem} {a c w : Int32} {m1 : Mem} (em1 : m1 = (m.sI 61 6 0).sJ 61 23 18398) (g3 : m1.I 61 3 = a) (g5 : m2.I 61 5 = c) (q1 : f_X4_mix 61 a.toInt64 (HH m1) = some (HH m2)) (q2 : f_X4_mix 61 c.toInt64 (HH m2) = some (HH m3))
    (e4 : l_X4_digest_32 61 FU 0 (HH m3) = some (HH m4)) (e5 : f_X4_laysReasons 61 (HH m4) = some (HH m5)) (e6 : l_X4_digest_60 61 FU 0 (HH m5) = some (HH m6)) (e7 : l_X4_digest_111 61 FU 0 (HH m6) = some (HH m7)) (e8 : l_X4_digest_150 61 FU 0 (HH m7) = some (HH m8)) (e9 : f_X4_wrong 61 (HH m8) = some w) (q9 : f_X4_mix 61 w.toInt64 (HH m8) = some (HH m9)) : f_X4_digest 61 (HH m) = some (m9.J 61 23, HH m9) := by
  unfold f_X4_digest
  rw [o_61, Option.bind_some, p_61_6, Option.bind_some, p_61_23, Option.bind_some, ← em1, g_61_3, Option.bind_some, g3, q1, Option.bind_some, g_61_5, Option.bind_some, g5, q2, Option.bind_some, e4, Option.bind_some, e5, Option.bind_some, e6, Option.bind_some, e7, Option.bind_some, e8, Option.bind_some, e9, Option.bind_some, q9, Option.bind_some, g_61_23, Option.bind_some]
theorem k_digest {m : Mem} (hi : INV m) : ∃ v m2, f_X3_digest 0 (HH m) = some (.inr v) ∧ f_X4_digest 61 (HH m) = some (v, HH m2) ∧ INV m2 := by
  obtain ⟨n, s, M, q, P, PM, tl, tx, hC, hD, b⟩ := INV_out hi
  obtain ⟨d1, d2, d3⟩ := fl hD 0
  obtain ⟨x1, ex1⟩ : ∃ x, x = mxW 18398 (nI q) := ⟨_, rfl⟩
  obtain ⟨x2, ex2⟩ : ∃ x, x = mxW x1 (nI tl) := ⟨_, rfl⟩
  obtain ⟨m3, em3⟩ : ∃ m3, m3 = (((m.sI 61 6 0).sJ 61 23 18398).sJ 61 23 x1).sJ 61 23 x2 := ⟨_, rfl⟩
  have f3 : hF (m.sI 61 6 0) m3 := by rw [em3]; exact hF_tr (hF_J _ _) (hF_tr (hF_J _ _) (hF_J _ _))
  have j3 : m3.J 61 23 = x2 := by rw [em3, J23]
  have D3 := DD_D d1 f3
  have s3 : m3.I 62 = s := D3.2.1
  obtain ⟨m4, e4, f4, v4⟩ := m_dC (m := m3) (M := M) (by rw [s3]; exact b.1) D3.1
  have D4 := DD_D D3 f4
  obtain ⟨m5, e5, w5, f5⟩ := m_why (m := m4) (M := M) (by rw [D4.2.1]; exact b.1) D4.1
  have D5 := DD_D D4 (hF_Y f5)
  have v5 : m5.J 61 23 = m4.J 61 23 := by rw [(f5.1 61 (by unfold cY; omega)).2]
  obtain ⟨m6, e6, f6, v6⟩ := m_dT (m := m5) (M := M) b.1.1 D5.1 w5
  have D6 := DD_D D5 f6
  obtain ⟨m7, e7, f7, v7⟩ := m_dR (m := m6) (M := M) (by rw [D6.2.1]; exact b.1) D6.1
  have D7 := DD_D D6 f7
  obtain ⟨m8, e8, f8, v8⟩ := m_dP (m := m7) (M := M) (by rw [D7.2.1]; exact b.1) D7.1
  have D8 := DD_D D7 f8
  have e9 := m_wrong (m := m8) (M := M) (by rw [D8.2.1]; exact b.1) D8.1
  rw [D8.2.1] at e9
  rw [j3, s3] at v4
  rw [v5, v4, D5.2.1] at v6
  rw [v6, D6.2.1] at v7
  rw [v7, D7.2.1] at v8
  have f9 : hF (m.sI 61 6 0) m8 := hF_tr f3 (hF_tr f4 (hF_tr (hF_Y f5) (hF_tr f6 (hF_tr f7 f8))))
  obtain ⟨v, ev⟩ : ∃ v, v = dA n s M q tl := ⟨_, rfl⟩
  have ev8 : mxW (m8.J 61 23) (nI (mis n s (rX s) (rY s) (nT n))) = v := by rw [v8, ev, ex2, ex1, dA]
  have f10 : hF (m.sI 61 6 0) (m8.sJ 61 23 v) := hF_tr f9 (hF_J _ _)
  refine ⟨v, m8.sJ 61 23 v, ?_, ?_, INV_of (CC_up hC (upM_tr d3 (up_D f10)) b.2.1) (DD_D d1 f10) b⟩
  · rw [ev]
    exact c_digest b.1 hC.1 hC.2.2.1 hC.2.2.2.1 hC.2.2.2.2.2.2.1
  · have g3 : (m.sI 61 6 0).I 61 3 = nI q := d1.2.2.1
    have g5 : (m.sI 61 6 0).I 61 5 = nI tl := d1.2.2.2.2.1
    have q1 : f_X4_mix 61 (nI q).toInt64 (HH ((m.sI 61 6 0).sJ 61 23 18398)) = some (HH (((m.sI 61 6 0).sJ 61 23 18398).sJ 61 23 x1)) := by rw [m_mixW, J23, ← ex1]
    have q2 : f_X4_mix 61 (nI tl).toInt64 (HH (((m.sI 61 6 0).sJ 61 23 18398).sJ 61 23 x1)) = some (HH m3) := by rw [m_mixW, J23, ← ex2, em3]
    have q9 : f_X4_mix 61 (nI (mis n s (rX s) (rY s) (nT n))).toInt64 (HH m8) = some (HH (m8.sJ 61 23 v)) := by rw [m_mixW, ev8]
    have key := dig_g (m := m) rfl (show ((m.sI 61 6 0).sJ 61 23 18398).I 61 3 = nI q from g3) (show (((m.sI 61 6 0).sJ 61 23 18398).sJ 61 23 x1).I 61 5 = nI tl from g5) q1 q2 e4 e5 e6 e7 e8 e9 q9
    rw [J23] at key
    exact key
