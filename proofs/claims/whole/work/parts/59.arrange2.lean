/-! the class's layout for a number of points -/
def rE (n a b c d : Nat) : List (List Nat) := (List.range' (d + 1) (n - (d + 1))).flatMap fun e => if b = a then [] else if c = a then [] else if d = a then [] else if e = a then [] else [[a, b, c, d, e]]
def rD (n a b c : Nat) : List (List Nat) := (List.range' (c + 1) (n - (c + 1))).flatMap fun d => rE n a b c d
def rC (n a b : Nat) : List (List Nat) := (List.range' (b + 1) (n - (b + 1))).flatMap fun c => rD n a b c
def rB (n a : Nat) : List (List Nat) := (List.range' 0 n).flatMap fun b => rC n a b
def rA (n : Nat) : List (List Nat) := (List.range' 0 n).flatMap fun a => rB n a
theorem rA_e {n : Nat} (hn : n38 n) : rA n = rels n := n38_cases (P := fun n => rA n = rels n) (by decide +kernel) hn
theorem len_snoc {l : List (List Nat)} {x : List (List Nat)} {B : Nat} (h : (l ++ x).length ≤ B) : l.length + x.length ≤ B := by
  rw [List.length_append] at h
  exact h
theorem LZ_of {m m1 : Mem} (h : LZ m) (e : m1.I 4 = m.I 4) : LZ m1 := by
  unfold LZ
  rw [e]
  exact h
theorem c_arrange {n : Nat} (hn : n38 n) {m : Mem} (hz : LZ m) : ∃ m1, f_X0_arrange 1 (nI n) (HH m) = some (HH m1) ∧ LC n m1 ∧ LZ m1 ∧ Fr cA m m1 := by
  have h8 := hn.2
  have hB : (rA n).length ≤ 280 := by rw [rA_e hn]; exact nR_le hn
  obtain ⟨m0, e0, R0, f0⟩ := c_arrT hn (m := m.sI 1 0 (nI n)) rfl hz
  have f00 : Fr cA m m0 := Fr_tr (Fr_sI (Fr_rf _ m) ⟨by omega, by omega⟩) f0
  have L0 := LT_of hn R0
  have S0 : RR n [] (m0.sI 1 2 0) ∧ Fr cA m (m0.sI 1 2 0) ∧ (m0.sI 1 2 0).I 4 = m0.I 4 := ⟨⟨LT_fr L0 (fun k hk => by rw [sI_at, if_neg (by omega)]) rfl rfl rfl, rfl, fun r hr => absurd hr (Nat.not_lt_zero r)⟩, Fr_sI f00 ⟨by omega, by omega⟩, rfl⟩
  have inE : ∀ a b c d, a < n → b < c → c < d → d < n → ∀ m1 l, (RR n l m1 ∧ Fr cA m m1 ∧ m1.I 4 = m0.I 4) → (l ++ rE n a b c d).length ≤ 280 → ∃ m2, l_X0_arrangeRelations_42 1 (nI a) (nI b) (nI c) (nI d) FU (nI (d + 1)) (HH m1) = some (HH m2) ∧ RR n (l ++ rE n a b c d) m2 ∧ Fr cA m m2 ∧ m2.I 4 = m0.I 4 := by
    intro a b c d ha hbc hcd hd m1 l hR hlen
    refine loopA (α := List Nat) (fun fuel x h => l_X0_arrangeRelations_42 1 (nI a) (nI b) (nI c) (nI d) fuel x h) n 280 (d + 1) (fun e => if b = a then [] else if c = a then [] else if d = a then [] else if e = a then [] else [[a, b, c, d, e]]) (fun l m1 => RR n l m1 ∧ Fr cA m m1 ∧ m1.I 4 = m0.I 4) ?_ ?_ (n - (d + 1)) (d + 1) m1 l FU (Nat.le_refl _) (by omega) (FUx (by omega)) hR hlen
    · intro fuel m1 l hR
      simp (disch := omega) only [l_X0_arrangeRelations_42, o_0, g_0_0, g_0_1, g_0_2, g_0_3, g_0_4, g_0_5, g_0_6, g_0_7, g_0_8, g_0_9, g_0_10, g_0_11, o_1, g_1_0, g_1_1, g_1_2, g_1_3, g_1_4, g_1_5, g_1_6, g_1_7, g_1_8, g_1_9, r_2, r_3, r_4, r_5, r_6, r_7, r_8, o_9, g_9_0, g_9_1, g_9_2, g_9_3, g_9_4, g_9_5, g_9_6, g_9_7, g_9_8, g_9_9, r_10, r_11, r_12, r_13, r_14, r_15, r_16, o_17, g_17_0, g_17_1, g_17_2, g_17_3, g_17_4, r_18, r_19, r_20, r_22, r_23, r_24, r_25, r_26, r_27, r_28, o_29, g_29_0, g_29_1, g_29_2, g_29_3, g_29_4, g_29_5, g_29_6, g_29_7, g_29_8, g_29_9, r_30, r_31, r_32, r_33, r_34, r_35, r_36, o_37, g_37_0, g_37_1, g_37_2, g_37_3, g_37_4, g_37_5, g_37_6, g_37_7, g_37_8, g_37_9, r_38, r_39, r_40, r_41, r_42, r_43, r_44, o_45, g_45_0, g_45_1, g_45_2, g_45_3, g_45_4, g_45_5, g_45_6, g_45_7, g_45_8, g_45_9, r_46, r_47, r_48, r_49, r_50, r_51, r_52, o_53, g_53_0, g_53_1, g_53_2, g_53_3, g_53_4, g_53_5, g_53_6, g_53_7, g_53_8, g_53_9, r_54, r_55, r_56, r_57, r_58, r_59, r_60, o_61, g_61_0, g_61_1, g_61_2, g_61_3, g_61_4, g_61_5, g_61_6, g_61_7, g_61_8, g_61_9, g_61_10, g_61_11, g_61_12, g_61_13, g_61_14, g_61_15, g_61_16, g_61_17, g_61_18, g_61_19, g_61_20, g_61_21, g_61_22, g_61_23, r_62, r_63, r_64, r_65, r_66, r_67, r_68, r_69, r_70, r_71, r_72, r_73, r_74, r_75, r_76, r_77, Option.bind_some, hR.1.1.1, leN, if_pos (Nat.le_refl n)]
    · intro fuel e m1 l hlo he hR hlen
      have hlen := len_snoc hlen
      simp (disch := omega) only [l_X0_arrangeRelations_42, o_0, g_0_0, g_0_1, g_0_2, g_0_3, g_0_4, g_0_5, g_0_6, g_0_7, g_0_8, g_0_9, g_0_10, g_0_11, o_1, g_1_0, g_1_1, g_1_2, g_1_3, g_1_4, g_1_5, g_1_6, g_1_7, g_1_8, g_1_9, r_2, r_3, r_4, r_5, r_6, r_7, r_8, o_9, g_9_0, g_9_1, g_9_2, g_9_3, g_9_4, g_9_5, g_9_6, g_9_7, g_9_8, g_9_9, r_10, r_11, r_12, r_13, r_14, r_15, r_16, o_17, g_17_0, g_17_1, g_17_2, g_17_3, g_17_4, r_18, r_19, r_20, r_22, r_23, r_24, r_25, r_26, r_27, r_28, o_29, g_29_0, g_29_1, g_29_2, g_29_3, g_29_4, g_29_5, g_29_6, g_29_7, g_29_8, g_29_9, r_30, r_31, r_32, r_33, r_34, r_35, r_36, o_37, g_37_0, g_37_1, g_37_2, g_37_3, g_37_4, g_37_5, g_37_6, g_37_7, g_37_8, g_37_9, r_38, r_39, r_40, r_41, r_42, r_43, r_44, o_45, g_45_0, g_45_1, g_45_2, g_45_3, g_45_4, g_45_5, g_45_6, g_45_7, g_45_8, g_45_9, r_46, r_47, r_48, r_49, r_50, r_51, r_52, o_53, g_53_0, g_53_1, g_53_2, g_53_3, g_53_4, g_53_5, g_53_6, g_53_7, g_53_8, g_53_9, r_54, r_55, r_56, r_57, r_58, r_59, r_60, o_61, g_61_0, g_61_1, g_61_2, g_61_3, g_61_4, g_61_5, g_61_6, g_61_7, g_61_8, g_61_9, g_61_10, g_61_11, g_61_12, g_61_13, g_61_14, g_61_15, g_61_16, g_61_17, g_61_18, g_61_19, g_61_20, g_61_21, g_61_22, g_61_23, r_62, r_63, r_64, r_65, r_66, r_67, r_68, r_69, r_70, r_71, r_72, r_73, r_74, r_75, r_76, r_77, Option.bind_some, hR.1.1.1, leN, if_neg (show ¬ n ≤ e by omega), ne_of hn (show b < n by omega) ha, ne_of hn (show c < n by omega) ha, ne_of hn hd ha, ne_of hn he ha, add1]
      by_cases c1 : b = a
      · rw [if_pos c1, if_pos c1, List.append_nil]
        exact ⟨m1, rfl, hR⟩
      · rw [if_neg c1, if_neg c1]
        by_cases c2 : c = a
        · rw [if_pos c2, if_pos c2, List.append_nil]
          exact ⟨m1, rfl, hR⟩
        · rw [if_neg c2, if_neg c2]
          by_cases c3 : d = a
          · rw [if_pos c3, if_pos c3, List.append_nil]
            exact ⟨m1, rfl, hR⟩
          · rw [if_neg c3, if_neg c3]
            by_cases c4 : e = a
            · rw [if_pos c4, if_pos c4, List.append_nil]
              exact ⟨m1, rfl, hR⟩
            · rw [if_neg c4, if_neg c4]
              rw [if_neg c1, if_neg c2, if_neg c3, if_neg c4] at hlen
              have hlen : l.length + 1 ≤ 280 := hlen
              obtain ⟨m2, e2, R2, f2, z2⟩ := c_addR hn hR.1 (by omega) ha (show b < n by omega) (show c < n by omega) hd he (fun h => c1 h.symm) (fun h => c2 h.symm) (fun h => c3 h.symm) (fun h => c4 h.symm) hbc hcd (by omega)
              refine ⟨m2, ?_, R2, Fr_tr hR.2.1 f2, z2.trans hR.2.2⟩
              rw [e2]
              rfl
  have inD : ∀ a b c, a < n → b < c → c < n → ∀ m1 l, (RR n l m1 ∧ Fr cA m m1 ∧ m1.I 4 = m0.I 4) → (l ++ rD n a b c).length ≤ 280 → ∃ m2, l_X0_arrangeRelations_27 1 (nI a) (nI b) (nI c) FU (nI (c + 1)) (HH m1) = some (HH m2) ∧ RR n (l ++ rD n a b c) m2 ∧ Fr cA m m2 ∧ m2.I 4 = m0.I 4 := by
    intro a b c ha hbc hc m1 l hR hlen
    refine loopA (α := List Nat) (fun fuel x h => l_X0_arrangeRelations_27 1 (nI a) (nI b) (nI c) fuel x h) n 280 (c + 1) (fun d => rE n a b c d) (fun l m1 => RR n l m1 ∧ Fr cA m m1 ∧ m1.I 4 = m0.I 4) ?_ ?_ (n - (c + 1)) (c + 1) m1 l FU (Nat.le_refl _) (by omega) (FUx (by omega)) hR hlen
    · intro fuel m1 l hR
      simp (disch := omega) only [l_X0_arrangeRelations_27, o_0, g_0_0, g_0_1, g_0_2, g_0_3, g_0_4, g_0_5, g_0_6, g_0_7, g_0_8, g_0_9, g_0_10, g_0_11, o_1, g_1_0, g_1_1, g_1_2, g_1_3, g_1_4, g_1_5, g_1_6, g_1_7, g_1_8, g_1_9, r_2, r_3, r_4, r_5, r_6, r_7, r_8, o_9, g_9_0, g_9_1, g_9_2, g_9_3, g_9_4, g_9_5, g_9_6, g_9_7, g_9_8, g_9_9, r_10, r_11, r_12, r_13, r_14, r_15, r_16, o_17, g_17_0, g_17_1, g_17_2, g_17_3, g_17_4, r_18, r_19, r_20, r_22, r_23, r_24, r_25, r_26, r_27, r_28, o_29, g_29_0, g_29_1, g_29_2, g_29_3, g_29_4, g_29_5, g_29_6, g_29_7, g_29_8, g_29_9, r_30, r_31, r_32, r_33, r_34, r_35, r_36, o_37, g_37_0, g_37_1, g_37_2, g_37_3, g_37_4, g_37_5, g_37_6, g_37_7, g_37_8, g_37_9, r_38, r_39, r_40, r_41, r_42, r_43, r_44, o_45, g_45_0, g_45_1, g_45_2, g_45_3, g_45_4, g_45_5, g_45_6, g_45_7, g_45_8, g_45_9, r_46, r_47, r_48, r_49, r_50, r_51, r_52, o_53, g_53_0, g_53_1, g_53_2, g_53_3, g_53_4, g_53_5, g_53_6, g_53_7, g_53_8, g_53_9, r_54, r_55, r_56, r_57, r_58, r_59, r_60, o_61, g_61_0, g_61_1, g_61_2, g_61_3, g_61_4, g_61_5, g_61_6, g_61_7, g_61_8, g_61_9, g_61_10, g_61_11, g_61_12, g_61_13, g_61_14, g_61_15, g_61_16, g_61_17, g_61_18, g_61_19, g_61_20, g_61_21, g_61_22, g_61_23, r_62, r_63, r_64, r_65, r_66, r_67, r_68, r_69, r_70, r_71, r_72, r_73, r_74, r_75, r_76, r_77, Option.bind_some, hR.1.1.1, leN, if_pos (Nat.le_refl n)]
    · intro fuel d m1 l hlo hd hR hlen
      obtain ⟨m2, e2, R2⟩ := inE a b c d ha hbc (by omega) hd m1 l hR hlen
      refine ⟨m2, ?_, R2⟩
      simp (disch := omega) only [l_X0_arrangeRelations_27, o_0, g_0_0, g_0_1, g_0_2, g_0_3, g_0_4, g_0_5, g_0_6, g_0_7, g_0_8, g_0_9, g_0_10, g_0_11, o_1, g_1_0, g_1_1, g_1_2, g_1_3, g_1_4, g_1_5, g_1_6, g_1_7, g_1_8, g_1_9, r_2, r_3, r_4, r_5, r_6, r_7, r_8, o_9, g_9_0, g_9_1, g_9_2, g_9_3, g_9_4, g_9_5, g_9_6, g_9_7, g_9_8, g_9_9, r_10, r_11, r_12, r_13, r_14, r_15, r_16, o_17, g_17_0, g_17_1, g_17_2, g_17_3, g_17_4, r_18, r_19, r_20, r_22, r_23, r_24, r_25, r_26, r_27, r_28, o_29, g_29_0, g_29_1, g_29_2, g_29_3, g_29_4, g_29_5, g_29_6, g_29_7, g_29_8, g_29_9, r_30, r_31, r_32, r_33, r_34, r_35, r_36, o_37, g_37_0, g_37_1, g_37_2, g_37_3, g_37_4, g_37_5, g_37_6, g_37_7, g_37_8, g_37_9, r_38, r_39, r_40, r_41, r_42, r_43, r_44, o_45, g_45_0, g_45_1, g_45_2, g_45_3, g_45_4, g_45_5, g_45_6, g_45_7, g_45_8, g_45_9, r_46, r_47, r_48, r_49, r_50, r_51, r_52, o_53, g_53_0, g_53_1, g_53_2, g_53_3, g_53_4, g_53_5, g_53_6, g_53_7, g_53_8, g_53_9, r_54, r_55, r_56, r_57, r_58, r_59, r_60, o_61, g_61_0, g_61_1, g_61_2, g_61_3, g_61_4, g_61_5, g_61_6, g_61_7, g_61_8, g_61_9, g_61_10, g_61_11, g_61_12, g_61_13, g_61_14, g_61_15, g_61_16, g_61_17, g_61_18, g_61_19, g_61_20, g_61_21, g_61_22, g_61_23, r_62, r_63, r_64, r_65, r_66, r_67, r_68, r_69, r_70, r_71, r_72, r_73, r_74, r_75, r_76, r_77, Option.bind_some, hR.1.1.1, leN, if_neg (show ¬ n ≤ d by omega), add_1, e2]
  have inC : ∀ a b, a < n → b < n → ∀ m1 l, (RR n l m1 ∧ Fr cA m m1 ∧ m1.I 4 = m0.I 4) → (l ++ rC n a b).length ≤ 280 → ∃ m2, l_X0_arrangeRelations_14 1 (nI a) (nI b) FU (nI (b + 1)) (HH m1) = some (HH m2) ∧ RR n (l ++ rC n a b) m2 ∧ Fr cA m m2 ∧ m2.I 4 = m0.I 4 := by
    intro a b ha hb m1 l hR hlen
    refine loopA (α := List Nat) (fun fuel x h => l_X0_arrangeRelations_14 1 (nI a) (nI b) fuel x h) n 280 (b + 1) (fun c => rD n a b c) (fun l m1 => RR n l m1 ∧ Fr cA m m1 ∧ m1.I 4 = m0.I 4) ?_ ?_ (n - (b + 1)) (b + 1) m1 l FU (Nat.le_refl _) (by omega) (FUx (by omega)) hR hlen
    · intro fuel m1 l hR
      simp (disch := omega) only [l_X0_arrangeRelations_14, o_0, g_0_0, g_0_1, g_0_2, g_0_3, g_0_4, g_0_5, g_0_6, g_0_7, g_0_8, g_0_9, g_0_10, g_0_11, o_1, g_1_0, g_1_1, g_1_2, g_1_3, g_1_4, g_1_5, g_1_6, g_1_7, g_1_8, g_1_9, r_2, r_3, r_4, r_5, r_6, r_7, r_8, o_9, g_9_0, g_9_1, g_9_2, g_9_3, g_9_4, g_9_5, g_9_6, g_9_7, g_9_8, g_9_9, r_10, r_11, r_12, r_13, r_14, r_15, r_16, o_17, g_17_0, g_17_1, g_17_2, g_17_3, g_17_4, r_18, r_19, r_20, r_22, r_23, r_24, r_25, r_26, r_27, r_28, o_29, g_29_0, g_29_1, g_29_2, g_29_3, g_29_4, g_29_5, g_29_6, g_29_7, g_29_8, g_29_9, r_30, r_31, r_32, r_33, r_34, r_35, r_36, o_37, g_37_0, g_37_1, g_37_2, g_37_3, g_37_4, g_37_5, g_37_6, g_37_7, g_37_8, g_37_9, r_38, r_39, r_40, r_41, r_42, r_43, r_44, o_45, g_45_0, g_45_1, g_45_2, g_45_3, g_45_4, g_45_5, g_45_6, g_45_7, g_45_8, g_45_9, r_46, r_47, r_48, r_49, r_50, r_51, r_52, o_53, g_53_0, g_53_1, g_53_2, g_53_3, g_53_4, g_53_5, g_53_6, g_53_7, g_53_8, g_53_9, r_54, r_55, r_56, r_57, r_58, r_59, r_60, o_61, g_61_0, g_61_1, g_61_2, g_61_3, g_61_4, g_61_5, g_61_6, g_61_7, g_61_8, g_61_9, g_61_10, g_61_11, g_61_12, g_61_13, g_61_14, g_61_15, g_61_16, g_61_17, g_61_18, g_61_19, g_61_20, g_61_21, g_61_22, g_61_23, r_62, r_63, r_64, r_65, r_66, r_67, r_68, r_69, r_70, r_71, r_72, r_73, r_74, r_75, r_76, r_77, Option.bind_some, hR.1.1.1, leN, if_pos (Nat.le_refl n)]
    · intro fuel c m1 l hlo hc hR hlen
      obtain ⟨m2, e2, R2⟩ := inD a b c ha (by omega) hc m1 l hR hlen
      refine ⟨m2, ?_, R2⟩
      simp (disch := omega) only [l_X0_arrangeRelations_14, o_0, g_0_0, g_0_1, g_0_2, g_0_3, g_0_4, g_0_5, g_0_6, g_0_7, g_0_8, g_0_9, g_0_10, g_0_11, o_1, g_1_0, g_1_1, g_1_2, g_1_3, g_1_4, g_1_5, g_1_6, g_1_7, g_1_8, g_1_9, r_2, r_3, r_4, r_5, r_6, r_7, r_8, o_9, g_9_0, g_9_1, g_9_2, g_9_3, g_9_4, g_9_5, g_9_6, g_9_7, g_9_8, g_9_9, r_10, r_11, r_12, r_13, r_14, r_15, r_16, o_17, g_17_0, g_17_1, g_17_2, g_17_3, g_17_4, r_18, r_19, r_20, r_22, r_23, r_24, r_25, r_26, r_27, r_28, o_29, g_29_0, g_29_1, g_29_2, g_29_3, g_29_4, g_29_5, g_29_6, g_29_7, g_29_8, g_29_9, r_30, r_31, r_32, r_33, r_34, r_35, r_36, o_37, g_37_0, g_37_1, g_37_2, g_37_3, g_37_4, g_37_5, g_37_6, g_37_7, g_37_8, g_37_9, r_38, r_39, r_40, r_41, r_42, r_43, r_44, o_45, g_45_0, g_45_1, g_45_2, g_45_3, g_45_4, g_45_5, g_45_6, g_45_7, g_45_8, g_45_9, r_46, r_47, r_48, r_49, r_50, r_51, r_52, o_53, g_53_0, g_53_1, g_53_2, g_53_3, g_53_4, g_53_5, g_53_6, g_53_7, g_53_8, g_53_9, r_54, r_55, r_56, r_57, r_58, r_59, r_60, o_61, g_61_0, g_61_1, g_61_2, g_61_3, g_61_4, g_61_5, g_61_6, g_61_7, g_61_8, g_61_9, g_61_10, g_61_11, g_61_12, g_61_13, g_61_14, g_61_15, g_61_16, g_61_17, g_61_18, g_61_19, g_61_20, g_61_21, g_61_22, g_61_23, r_62, r_63, r_64, r_65, r_66, r_67, r_68, r_69, r_70, r_71, r_72, r_73, r_74, r_75, r_76, r_77, Option.bind_some, hR.1.1.1, leN, if_neg (show ¬ n ≤ c by omega), add_1, e2]
  have inB : ∀ a, a < n → ∀ m1 l, (RR n l m1 ∧ Fr cA m m1 ∧ m1.I 4 = m0.I 4) → (l ++ rB n a).length ≤ 280 → ∃ m2, f_X0_arrangeRelations 1 (nI a) (HH m1) = some (HH m2) ∧ RR n (l ++ rB n a) m2 ∧ Fr cA m m2 ∧ m2.I 4 = m0.I 4 := by
    intro a ha m1 l hR hlen
    have go : ∃ m2, l_X0_arrangeRelations_2 1 (nI a) FU (nI 0) (HH m1) = some (HH m2) ∧ RR n (l ++ rB n a) m2 ∧ Fr cA m m2 ∧ m2.I 4 = m0.I 4 := by
      refine loopA (α := List Nat) (fun fuel x h => l_X0_arrangeRelations_2 1 (nI a) fuel x h) n 280 0 (fun b => rC n a b) (fun l m1 => RR n l m1 ∧ Fr cA m m1 ∧ m1.I 4 = m0.I 4) ?_ ?_ n 0 m1 l FU (Nat.le_refl _) (by omega) (FUx (by omega)) hR hlen
      · intro fuel m1 l hR
        simp (disch := omega) only [l_X0_arrangeRelations_2, o_0, g_0_0, g_0_1, g_0_2, g_0_3, g_0_4, g_0_5, g_0_6, g_0_7, g_0_8, g_0_9, g_0_10, g_0_11, o_1, g_1_0, g_1_1, g_1_2, g_1_3, g_1_4, g_1_5, g_1_6, g_1_7, g_1_8, g_1_9, r_2, r_3, r_4, r_5, r_6, r_7, r_8, o_9, g_9_0, g_9_1, g_9_2, g_9_3, g_9_4, g_9_5, g_9_6, g_9_7, g_9_8, g_9_9, r_10, r_11, r_12, r_13, r_14, r_15, r_16, o_17, g_17_0, g_17_1, g_17_2, g_17_3, g_17_4, r_18, r_19, r_20, r_22, r_23, r_24, r_25, r_26, r_27, r_28, o_29, g_29_0, g_29_1, g_29_2, g_29_3, g_29_4, g_29_5, g_29_6, g_29_7, g_29_8, g_29_9, r_30, r_31, r_32, r_33, r_34, r_35, r_36, o_37, g_37_0, g_37_1, g_37_2, g_37_3, g_37_4, g_37_5, g_37_6, g_37_7, g_37_8, g_37_9, r_38, r_39, r_40, r_41, r_42, r_43, r_44, o_45, g_45_0, g_45_1, g_45_2, g_45_3, g_45_4, g_45_5, g_45_6, g_45_7, g_45_8, g_45_9, r_46, r_47, r_48, r_49, r_50, r_51, r_52, o_53, g_53_0, g_53_1, g_53_2, g_53_3, g_53_4, g_53_5, g_53_6, g_53_7, g_53_8, g_53_9, r_54, r_55, r_56, r_57, r_58, r_59, r_60, o_61, g_61_0, g_61_1, g_61_2, g_61_3, g_61_4, g_61_5, g_61_6, g_61_7, g_61_8, g_61_9, g_61_10, g_61_11, g_61_12, g_61_13, g_61_14, g_61_15, g_61_16, g_61_17, g_61_18, g_61_19, g_61_20, g_61_21, g_61_22, g_61_23, r_62, r_63, r_64, r_65, r_66, r_67, r_68, r_69, r_70, r_71, r_72, r_73, r_74, r_75, r_76, r_77, Option.bind_some, hR.1.1.1, leN, if_pos (Nat.le_refl n)]
      · intro fuel b m1 l hlo hb hR hlen
        obtain ⟨m2, e2, R2⟩ := inC a b ha hb m1 l hR hlen
        refine ⟨m2, ?_, R2⟩
        simp (disch := omega) only [l_X0_arrangeRelations_2, o_0, g_0_0, g_0_1, g_0_2, g_0_3, g_0_4, g_0_5, g_0_6, g_0_7, g_0_8, g_0_9, g_0_10, g_0_11, o_1, g_1_0, g_1_1, g_1_2, g_1_3, g_1_4, g_1_5, g_1_6, g_1_7, g_1_8, g_1_9, r_2, r_3, r_4, r_5, r_6, r_7, r_8, o_9, g_9_0, g_9_1, g_9_2, g_9_3, g_9_4, g_9_5, g_9_6, g_9_7, g_9_8, g_9_9, r_10, r_11, r_12, r_13, r_14, r_15, r_16, o_17, g_17_0, g_17_1, g_17_2, g_17_3, g_17_4, r_18, r_19, r_20, r_22, r_23, r_24, r_25, r_26, r_27, r_28, o_29, g_29_0, g_29_1, g_29_2, g_29_3, g_29_4, g_29_5, g_29_6, g_29_7, g_29_8, g_29_9, r_30, r_31, r_32, r_33, r_34, r_35, r_36, o_37, g_37_0, g_37_1, g_37_2, g_37_3, g_37_4, g_37_5, g_37_6, g_37_7, g_37_8, g_37_9, r_38, r_39, r_40, r_41, r_42, r_43, r_44, o_45, g_45_0, g_45_1, g_45_2, g_45_3, g_45_4, g_45_5, g_45_6, g_45_7, g_45_8, g_45_9, r_46, r_47, r_48, r_49, r_50, r_51, r_52, o_53, g_53_0, g_53_1, g_53_2, g_53_3, g_53_4, g_53_5, g_53_6, g_53_7, g_53_8, g_53_9, r_54, r_55, r_56, r_57, r_58, r_59, r_60, o_61, g_61_0, g_61_1, g_61_2, g_61_3, g_61_4, g_61_5, g_61_6, g_61_7, g_61_8, g_61_9, g_61_10, g_61_11, g_61_12, g_61_13, g_61_14, g_61_15, g_61_16, g_61_17, g_61_18, g_61_19, g_61_20, g_61_21, g_61_22, g_61_23, r_62, r_63, r_64, r_65, r_66, r_67, r_68, r_69, r_70, r_71, r_72, r_73, r_74, r_75, r_76, r_77, Option.bind_some, hR.1.1.1, leN, if_neg (show ¬ n ≤ b by omega), add_1, e2]
    obtain ⟨m2, e2, R2⟩ := go
    refine ⟨m2, ?_, R2⟩
    have e2 : l_X0_arrangeRelations_2 1 (nI a) FU 0 (HH m1) = _ := e2
    simp only [f_X0_arrangeRelations, o_1, Option.bind_some, e2]
  have go : ∃ m1, l_X0_arrange_16 1 FU (nI 0) (HH (m0.sI 1 2 0)) = some (HH m1) ∧ RR n ([] ++ rA n) m1 ∧ Fr cA m m1 ∧ m1.I 4 = m0.I 4 := by
    refine loopA (α := List Nat) (fun fuel x h => l_X0_arrange_16 1 fuel x h) n 280 0 (fun a => rB n a) (fun l m1 => RR n l m1 ∧ Fr cA m m1 ∧ m1.I 4 = m0.I 4) ?_ ?_ n 0 (m0.sI 1 2 0) [] FU (Nat.le_refl _) (by omega) (FUx (by omega)) S0 (by show ([] ++ rA n).length ≤ 280; simpa using hB)
    · intro fuel m1 l hR
      simp (disch := omega) only [l_X0_arrange_16, o_0, g_0_0, g_0_1, g_0_2, g_0_3, g_0_4, g_0_5, g_0_6, g_0_7, g_0_8, g_0_9, g_0_10, g_0_11, o_1, g_1_0, g_1_1, g_1_2, g_1_3, g_1_4, g_1_5, g_1_6, g_1_7, g_1_8, g_1_9, r_2, r_3, r_4, r_5, r_6, r_7, r_8, o_9, g_9_0, g_9_1, g_9_2, g_9_3, g_9_4, g_9_5, g_9_6, g_9_7, g_9_8, g_9_9, r_10, r_11, r_12, r_13, r_14, r_15, r_16, o_17, g_17_0, g_17_1, g_17_2, g_17_3, g_17_4, r_18, r_19, r_20, r_22, r_23, r_24, r_25, r_26, r_27, r_28, o_29, g_29_0, g_29_1, g_29_2, g_29_3, g_29_4, g_29_5, g_29_6, g_29_7, g_29_8, g_29_9, r_30, r_31, r_32, r_33, r_34, r_35, r_36, o_37, g_37_0, g_37_1, g_37_2, g_37_3, g_37_4, g_37_5, g_37_6, g_37_7, g_37_8, g_37_9, r_38, r_39, r_40, r_41, r_42, r_43, r_44, o_45, g_45_0, g_45_1, g_45_2, g_45_3, g_45_4, g_45_5, g_45_6, g_45_7, g_45_8, g_45_9, r_46, r_47, r_48, r_49, r_50, r_51, r_52, o_53, g_53_0, g_53_1, g_53_2, g_53_3, g_53_4, g_53_5, g_53_6, g_53_7, g_53_8, g_53_9, r_54, r_55, r_56, r_57, r_58, r_59, r_60, o_61, g_61_0, g_61_1, g_61_2, g_61_3, g_61_4, g_61_5, g_61_6, g_61_7, g_61_8, g_61_9, g_61_10, g_61_11, g_61_12, g_61_13, g_61_14, g_61_15, g_61_16, g_61_17, g_61_18, g_61_19, g_61_20, g_61_21, g_61_22, g_61_23, r_62, r_63, r_64, r_65, r_66, r_67, r_68, r_69, r_70, r_71, r_72, r_73, r_74, r_75, r_76, r_77, Option.bind_some, hR.1.1.1, leN, if_pos (Nat.le_refl n)]
    · intro fuel a m1 l hlo ha hR hlen
      obtain ⟨m2, e2, R2⟩ := inB a ha m1 l hR hlen
      refine ⟨m2, ?_, R2⟩
      simp (disch := omega) only [l_X0_arrange_16, o_0, g_0_0, g_0_1, g_0_2, g_0_3, g_0_4, g_0_5, g_0_6, g_0_7, g_0_8, g_0_9, g_0_10, g_0_11, o_1, g_1_0, g_1_1, g_1_2, g_1_3, g_1_4, g_1_5, g_1_6, g_1_7, g_1_8, g_1_9, r_2, r_3, r_4, r_5, r_6, r_7, r_8, o_9, g_9_0, g_9_1, g_9_2, g_9_3, g_9_4, g_9_5, g_9_6, g_9_7, g_9_8, g_9_9, r_10, r_11, r_12, r_13, r_14, r_15, r_16, o_17, g_17_0, g_17_1, g_17_2, g_17_3, g_17_4, r_18, r_19, r_20, r_22, r_23, r_24, r_25, r_26, r_27, r_28, o_29, g_29_0, g_29_1, g_29_2, g_29_3, g_29_4, g_29_5, g_29_6, g_29_7, g_29_8, g_29_9, r_30, r_31, r_32, r_33, r_34, r_35, r_36, o_37, g_37_0, g_37_1, g_37_2, g_37_3, g_37_4, g_37_5, g_37_6, g_37_7, g_37_8, g_37_9, r_38, r_39, r_40, r_41, r_42, r_43, r_44, o_45, g_45_0, g_45_1, g_45_2, g_45_3, g_45_4, g_45_5, g_45_6, g_45_7, g_45_8, g_45_9, r_46, r_47, r_48, r_49, r_50, r_51, r_52, o_53, g_53_0, g_53_1, g_53_2, g_53_3, g_53_4, g_53_5, g_53_6, g_53_7, g_53_8, g_53_9, r_54, r_55, r_56, r_57, r_58, r_59, r_60, o_61, g_61_0, g_61_1, g_61_2, g_61_3, g_61_4, g_61_5, g_61_6, g_61_7, g_61_8, g_61_9, g_61_10, g_61_11, g_61_12, g_61_13, g_61_14, g_61_15, g_61_16, g_61_17, g_61_18, g_61_19, g_61_20, g_61_21, g_61_22, g_61_23, r_62, r_63, r_64, r_65, r_66, r_67, r_68, r_69, r_70, r_71, r_72, r_73, r_74, r_75, r_76, r_77, Option.bind_some, hR.1.1.1, leN, if_neg (show ¬ n ≤ a by omega), add1, e2]
  obtain ⟨m1, e1, ⟨K1, K2, K3⟩, f1, z1⟩ := go
  rw [List.nil_append, rA_e hn] at K2 K3
  refine ⟨m1, ?_, ⟨K1.1, K1.2.1, K2, K1.2.2.1, K1.2.2.2, fun r hr => K3 r hr⟩, LZ_of R0.2.2.1 z1, f1⟩
  have e1 : l_X0_arrange_16 1 FU 0 (HH (m0.sI 1 2 0)) = _ := e1
  simp only [f_X0_arrange, o_0, g_0_0, g_0_1, g_0_2, g_0_3, g_0_4, p_0_4, g_0_5, g_0_6, g_0_7, g_0_8, g_0_9, g_0_10, g_0_11, o_1, g_1_0, p_1_0, g_1_1, p_1_1, g_1_2, p_1_2, g_1_3, g_1_4, g_1_5, g_1_6, g_1_7, g_1_8, g_1_9, r_2, w_2, r_3, w_3, r_4, w_4, r_5, w_5, r_6, w_6, r_7, w_7, r_8, w_8, o_9, g_9_0, p_9_0, g_9_1, p_9_1, g_9_2, p_9_2, g_9_3, g_9_4, g_9_5, g_9_6, g_9_7, g_9_8, g_9_9, r_10, w_10, r_11, w_11, r_12, w_12, r_13, w_13, r_14, w_14, r_15, w_15, r_16, w_16, o_17, g_17_0, g_17_1, p_17_1, g_17_2, g_17_3, g_17_4, p_17_4, r_18, w_18, r_19, w_19, r_20, w_20, r_22, w_22, r_23, w_23, r_24, w_24, r_25, w_25, r_26, w_26, r_27, w_27, r_28, w_28, o_29, g_29_0, p_29_0, g_29_1, p_29_1, g_29_2, p_29_2, g_29_3, g_29_4, g_29_5, g_29_6, g_29_7, g_29_8, g_29_9, r_30, w_30, r_31, w_31, r_32, w_32, r_33, w_33, r_34, w_34, r_35, w_35, r_36, w_36, o_37, g_37_0, p_37_0, g_37_1, p_37_1, g_37_2, p_37_2, g_37_3, g_37_4, g_37_5, g_37_6, g_37_7, g_37_8, g_37_9, r_38, w_38, r_39, w_39, r_40, w_40, r_41, w_41, r_42, w_42, r_43, w_43, r_44, w_44, o_45, g_45_0, p_45_0, g_45_1, p_45_1, g_45_2, p_45_2, g_45_3, g_45_4, g_45_5, g_45_6, g_45_7, g_45_8, g_45_9, r_46, w_46, r_47, w_47, r_48, w_48, r_49, w_49, r_50, w_50, r_51, w_51, r_52, w_52, o_53, g_53_0, p_53_0, g_53_1, p_53_1, g_53_2, p_53_2, g_53_3, g_53_4, g_53_5, g_53_6, g_53_7, g_53_8, g_53_9, r_54, w_54, r_55, w_55, r_56, w_56, r_57, w_57, r_58, w_58, r_59, w_59, r_60, w_60, o_61, g_61_0, g_61_1, g_61_2, g_61_3, p_61_3, g_61_4, g_61_5, p_61_5, g_61_6, p_61_6, g_61_7, g_61_8, g_61_9, p_61_9, g_61_10, g_61_11, p_61_11, g_61_12, p_61_12, g_61_13, g_61_14, g_61_15, g_61_16, g_61_17, g_61_18, g_61_19, g_61_20, p_61_20, g_61_21, p_61_21, g_61_22, g_61_23, p_61_23, r_62, w_62, r_63, w_63, r_64, w_64, r_65, w_65, r_66, w_66, r_67, w_67, r_68, w_68, r_69, w_69, r_70, w_70, r_71, w_71, r_72, w_72, r_73, w_73, r_74, w_74, r_75, w_75, r_76, w_76, r_77, w_77, Option.bind_some, e0, e1]
/-! the reference's -/
def cN (a : Nat) : Prop := a = 61 ∨ a = 66 ∨ a = 67 ∨ a = 68
/-- of the fields of the reference only those of the layout change -/
def fN (m m1 : Mem) : Prop := Fr cN m m1 ∧ ∀ k, k ≠ 9 → k ≠ 11 → m1.I 61 k = m.I 61 k
theorem fN_tr {m m1 m2 : Mem} (h : fN m m1) (h2 : fN m1 m2) : fN m m2 := ⟨Fr_tr h.1 h2.1, fun k k1 k2 => (h2.2 k k1 k2).trans (h.2 k k1 k2)⟩
def RTm (l : List (Nat × Nat × Nat)) (m : Mem) : Prop := m.I 61 9 = nI l.length ∧ (∀ t w, t < l.length → w < 3 → m.I 66 (3 * t + w) = nI (cw l t w)) ∧
  (∀ i j k, i < j → j < k → k < 8 → (i, j, k) ∈ l → m.I 67 (64 * i + 8 * j + k) = nI (lx l (i, j, k)))
def RRm (l : List (List Nat)) (m : Mem) : Prop := m.I 61 11 = nI l.length ∧ ∀ r w, r < l.length → w < 5 → m.I 68 (5 * r + w) = nI ((l.getD r []).getD w 0)
theorem m_addT {l : List (Nat × Nat × Nat)} {m : Mem} (hR : RTm l m) (hl : l.length < 56) {i j k n : Nat} (h1 : i < j) (h2 : j < k) (h3 : k < n) (hn : n ≤ 8) (fuel : Nat) : ∃ m1, l_X4_lays_33 61 (nI n) (nI i) (nI j) (fuel + 1) (nI k) (HH m) = l_X4_lays_33 61 (nI n) (nI i) (nI j) fuel (nI (k + 1)) (HH m1) ∧ RTm (l ++ [(i, j, k)]) m1 ∧ fN m m1 := by
  obtain ⟨a1, a2, a3⟩ := hR
  obtain ⟨m1, em1⟩ : ∃ m1, m1 = (((((m.sI 66 (3 * l.length) (nI i)).sI 66 (3 * l.length + 1) (nI j)).sI 66 (3 * l.length + 2) (nI k)).sI 67 (64 * i + 8 * j + k) (nI l.length)).sI 61 9 (nI (l.length + 1))) := ⟨_, rfl⟩
  have b6 : m1.I 66 = upd (upd (upd (m.I 66) (3 * l.length) (nI i)) (3 * l.length + 1) (nI j)) (3 * l.length + 2) (nI k) := by rw [em1]; rfl
  have b7 : m1.I 67 = upd (m.I 67) (64 * i + 8 * j + k) (nI l.length) := by rw [em1]; rfl
  have b1 : m1.I 61 = upd (m.I 61) 9 (nI (l.length + 1)) := by rw [em1]; rfl
  refine ⟨m1, ?_, ⟨?_, ?_, ?_⟩, ?_, ?_⟩
  · have q1 : (m.sI 66 (3 * l.length) (nI i)).I 61 9 = nI l.length := a1
    have q2 : ((m.sI 66 (3 * l.length) (nI i)).sI 66 (3 * l.length + 1) (nI j)).I 61 9 = nI l.length := a1
    have q3 : (((m.sI 66 (3 * l.length) (nI i)).sI 66 (3 * l.length + 1) (nI j)).sI 66 (3 * l.length + 2) (nI k)).I 61 9 = nI l.length := a1
    have q4 : ((((m.sI 66 (3 * l.length) (nI i)).sI 66 (3 * l.length + 1) (nI j)).sI 66 (3 * l.length + 2) (nI k)).sI 67 (64 * i + 8 * j + k) (nI l.length)).I 61 9 = nI l.length := a1
    simp (disch := omega) only [l_X4_lays_33, leN, if_neg (show ¬ n ≤ k by omega), show (3 : Int32) = nI 3 from rfl, show (64 : Int32) = nI 64 from rfl, show (8 : Int32) = nI 8 from rfl, pk_mul, nI_add, add_1, add_2, o_0, g_0_0, g_0_1, g_0_2, g_0_3, g_0_4, p_0_4, g_0_5, g_0_6, g_0_7, g_0_8, g_0_9, g_0_10, g_0_11, o_1, g_1_0, p_1_0, g_1_1, p_1_1, g_1_2, p_1_2, g_1_3, g_1_4, g_1_5, g_1_6, g_1_7, g_1_8, g_1_9, r_2, w_2, r_3, w_3, r_4, w_4, r_5, w_5, r_6, w_6, r_7, w_7, r_8, w_8, o_9, g_9_0, p_9_0, g_9_1, p_9_1, g_9_2, p_9_2, g_9_3, g_9_4, g_9_5, g_9_6, g_9_7, g_9_8, g_9_9, r_10, w_10, r_11, w_11, r_12, w_12, r_13, w_13, r_14, w_14, r_15, w_15, r_16, w_16, o_17, g_17_0, g_17_1, p_17_1, g_17_2, g_17_3, g_17_4, p_17_4, r_18, w_18, r_19, w_19, r_20, w_20, r_22, w_22, r_23, w_23, r_24, w_24, r_25, w_25, r_26, w_26, r_27, w_27, r_28, w_28, o_29, g_29_0, p_29_0, g_29_1, p_29_1, g_29_2, p_29_2, g_29_3, g_29_4, g_29_5, g_29_6, g_29_7, g_29_8, g_29_9, r_30, w_30, r_31, w_31, r_32, w_32, r_33, w_33, r_34, w_34, r_35, w_35, r_36, w_36, o_37, g_37_0, p_37_0, g_37_1, p_37_1, g_37_2, p_37_2, g_37_3, g_37_4, g_37_5, g_37_6, g_37_7, g_37_8, g_37_9, r_38, w_38, r_39, w_39, r_40, w_40, r_41, w_41, r_42, w_42, r_43, w_43, r_44, w_44, o_45, g_45_0, p_45_0, g_45_1, p_45_1, g_45_2, p_45_2, g_45_3, g_45_4, g_45_5, g_45_6, g_45_7, g_45_8, g_45_9, r_46, w_46, r_47, w_47, r_48, w_48, r_49, w_49, r_50, w_50, r_51, w_51, r_52, w_52, o_53, g_53_0, p_53_0, g_53_1, p_53_1, g_53_2, p_53_2, g_53_3, g_53_4, g_53_5, g_53_6, g_53_7, g_53_8, g_53_9, r_54, w_54, r_55, w_55, r_56, w_56, r_57, w_57, r_58, w_58, r_59, w_59, r_60, w_60, o_61, g_61_0, g_61_1, g_61_2, g_61_3, p_61_3, g_61_4, g_61_5, p_61_5, g_61_6, p_61_6, g_61_7, g_61_8, g_61_9, p_61_9, g_61_10, g_61_11, p_61_11, g_61_12, p_61_12, g_61_13, g_61_14, g_61_15, g_61_16, g_61_17, g_61_18, g_61_19, g_61_20, p_61_20, g_61_21, p_61_21, g_61_22, g_61_23, p_61_23, r_62, w_62, r_63, w_63, r_64, w_64, r_65, w_65, r_66, w_66, r_67, w_67, r_68, w_68, r_69, w_69, r_70, w_70, r_71, w_71, r_72, w_72, r_73, w_73, r_74, w_74, r_75, w_75, r_76, w_76, r_77, w_77, Option.bind_some, a1, q1, q2, q3, q4]
    rw [← em1]
  · rw [b1, upd_g, if_pos rfl, List.length_append]
    rfl
  · intro t w ht hw
    rw [List.length_append] at ht
    have ht : t < l.length + 1 := ht
    rw [b6, upd_g, upd_g, upd_g]
    by_cases c : t = l.length
    · subst c
      rw [cw_r]
      have : w = 0 ∨ w = 1 ∨ w = 2 := by omega
      rcases this with rfl | rfl | rfl
      · rw [if_neg (by omega), if_neg (by omega), if_pos (by omega), if_pos rfl]
      · rw [if_neg (by omega), if_pos (by omega), if_neg (by omega), if_pos rfl]
      · rw [if_pos (by omega), if_neg (by omega), if_neg (by omega)]
    · rw [if_neg (by omega), if_neg (by omega), if_neg (by omega), cw_l (by omega)]
      exact a2 t w (by omega) hw
  · intro a b c h1' h2' h3' hm
    rw [b7, upd_g, lx_a]
    by_cases cs : (i, j, k) = (a, b, c)
    · rw [if_pos cs]
      simp only [Prod.mk.injEq] at cs
      obtain ⟨rfl, rfl, rfl⟩ := cs
      rw [if_pos rfl]
    · rw [if_neg cs, if_neg]
      · refine a3 a b c h1' h2' h3' ?_
        rcases List.mem_append.mp hm with h | h
        · exact h
        · exact absurd (List.mem_singleton.mp h).symm cs
      · intro e
        apply cs
        have e1 : a = i := by omega
        have e2 : b = j := by omega
        have e3 : c = k := by omega
        rw [e1, e2, e3]
  · rw [em1]
    exact Fr_sI (Fr_sI (Fr_sI (Fr_sI (Fr_sI (Fr_rf _ m) (Or.inr (Or.inl rfl))) (Or.inr (Or.inl rfl))) (Or.inr (Or.inl rfl))) (Or.inr (Or.inr (Or.inl rfl)))) (Or.inl rfl)
  · intro x x9 x11
    rw [b1, upd_g, if_neg x9]
theorem m_laysT {n : Nat} (hn : n38 n) (m : Mem) : ∃ m1, l_X4_lays_14 61 (nI n) FU 0 (HH (m.sI 61 9 0)) = some (HH m1) ∧ RTm (trips n) m1 ∧ fN m m1 := by
  have h8 := hn.2
  have hB : (tI n).length ≤ 56 := by rw [tI_e hn]; exact nT_le hn
  have R0 : RTm [] (m.sI 61 9 0) ∧ fN m (m.sI 61 9 0) := ⟨⟨rfl, fun t w ht => absurd ht (Nat.not_lt_zero t), fun a b c _ _ _ h => absurd h (by simp)⟩, Fr_sI (Fr_rf _ m) (Or.inl rfl), fun k k9 _ => by rw [sI_at, if_neg k9]⟩
  have inK : ∀ i j, i < j → j < n → ∀ m1 l, (RTm l m1 ∧ fN m m1) → (l ++ tK n i j).length ≤ 56 → ∃ m2, l_X4_lays_33 61 (nI n) (nI i) (nI j) FU (nI (j + 1)) (HH m1) = some (HH m2) ∧ RTm (l ++ tK n i j) m2 ∧ fN m m2 := by
    intro i j hij hj m1 l hR hlen
    refine loopA (α := Nat × Nat × Nat) (fun fuel x h => l_X4_lays_33 61 (nI n) (nI i) (nI j) fuel x h) n 56 (j + 1) (fun k => [(i, j, k)]) (fun l m1 => RTm l m1 ∧ fN m m1) ?_ ?_ (n - (j + 1)) (j + 1) m1 l FU (Nat.le_refl _) (by omega) (FUx (by omega)) hR hlen
    · intro fuel m1 l hR
      simp (disch := omega) only [l_X4_lays_33, leN, if_pos (Nat.le_refl n)]
    · intro fuel k m1 l hlo hk hR hlen
      rw [List.length_append] at hlen
      have hlen : l.length + 1 ≤ 56 := hlen
      obtain ⟨m2, e2, R2, f2⟩ := m_addT hR.1 (by omega) hij (show j < k by omega) hk h8 fuel
      exact ⟨m2, e2, R2, fN_tr hR.2 f2⟩
  have inJ : ∀ i, i < n → ∀ m1 l, (RTm l m1 ∧ fN m m1) → (l ++ tJ n i).length ≤ 56 → ∃ m2, l_X4_lays_23 61 (nI n) (nI i) FU (nI (i + 1)) (HH m1) = some (HH m2) ∧ RTm (l ++ tJ n i) m2 ∧ fN m m2 := by
    intro i hi m1 l hR hlen
    refine loopA (α := Nat × Nat × Nat) (fun fuel x h => l_X4_lays_23 61 (nI n) (nI i) fuel x h) n 56 (i + 1) (fun j => tK n i j) (fun l m1 => RTm l m1 ∧ fN m m1) ?_ ?_ (n - (i + 1)) (i + 1) m1 l FU (Nat.le_refl _) (by omega) (FUx (by omega)) hR hlen
    · intro fuel m1 l hR
      simp (disch := omega) only [l_X4_lays_23, leN, if_pos (Nat.le_refl n)]
    · intro fuel j m1 l hlo hj hR hlen
      obtain ⟨m2, e2, R2⟩ := inK i j (by omega) hj m1 l hR hlen
      refine ⟨m2, ?_, R2⟩
      simp (disch := omega) only [l_X4_lays_23, Option.bind_some, leN, if_neg (show ¬ n ≤ j by omega), add_1, e2]
  have go : ∃ m1, l_X4_lays_14 61 (nI n) FU (nI 0) (HH (m.sI 61 9 0)) = some (HH m1) ∧ RTm ([] ++ tI n) m1 ∧ fN m m1 := by
    refine loopA (α := Nat × Nat × Nat) (fun fuel x h => l_X4_lays_14 61 (nI n) fuel x h) n 56 0 (fun i => tJ n i) (fun l m1 => RTm l m1 ∧ fN m m1) ?_ ?_ n 0 (m.sI 61 9 0) [] FU (Nat.le_refl _) (by omega) (FUx (by omega)) R0 (by show ([] ++ tI n).length ≤ 56; simpa using hB)
    · intro fuel m1 l hR
      simp (disch := omega) only [l_X4_lays_14, leN, if_pos (Nat.le_refl n)]
    · intro fuel i m1 l hlo hi hR hlen
      obtain ⟨m2, e2, R2⟩ := inJ i hi m1 l hR hlen
      refine ⟨m2, ?_, R2⟩
      simp (disch := omega) only [l_X4_lays_14, Option.bind_some, leN, if_neg (show ¬ n ≤ i by omega), add_1, e2]
  rw [List.nil_append, tI_e hn] at go
  exact go
theorem m_addR {l : List (List Nat)} {m : Mem} (hR : RRm l m) (hl : l.length < 280) (a b c d e : Nat) : ∃ m1, ((fR 4 10 (HH m) 61).bind fun v14 => (fI 4 11 (HH m) 61).bind fun v15 => (wI (HH m) v14 ((5 : Int32) * v15) (nI a)).bind fun h16 => (fR 4 10 h16 61).bind fun v17 => (fI 4 11 h16 61).bind fun v18 => (wI h16 v17 (((5 : Int32) * v18) + (1 : Int32)) (nI b)).bind fun h19 => (fR 4 10 h19 61).bind fun v20 => (fI 4 11 h19 61).bind fun v21 => (wI h19 v20 (((5 : Int32) * v21) + (2 : Int32)) (nI c)).bind fun h22 => (fR 4 10 h22 61).bind fun v23 => (fI 4 11 h22 61).bind fun v24 => (wI h22 v23 (((5 : Int32) * v24) + (3 : Int32)) (nI d)).bind fun h25 => (fR 4 10 h25 61).bind fun v26 => (fI 4 11 h25 61).bind fun v27 => (wI h25 v26 (((5 : Int32) * v27) + (4 : Int32)) (nI e)).bind fun h28 => (fI 4 11 h28 61).bind fun v29 => (sF 4 11 (.int (v29 + (1 : Int32))) h28 61).bind fun h30 => some h30) = some (HH m1) ∧ RRm (l ++ [[a, b, c, d, e]]) m1 ∧ fN m m1 ∧ (∀ x, x ≠ 61 → x ≠ 68 → m1.I x = m.I x) ∧ m1.I 61 9 = m.I 61 9 := by
  obtain ⟨a1, a2⟩ := hR
  obtain ⟨m1, em1⟩ : ∃ m1, m1 = ((((((m.sI 68 (5 * l.length) (nI a)).sI 68 (5 * l.length + 1) (nI b)).sI 68 (5 * l.length + 2) (nI c)).sI 68 (5 * l.length + 3) (nI d)).sI 68 (5 * l.length + 4) (nI e)).sI 61 11 (nI (l.length + 1))) := ⟨_, rfl⟩
  have b8 : m1.I 68 = upd (upd (upd (upd (upd (m.I 68) (5 * l.length) (nI a)) (5 * l.length + 1) (nI b)) (5 * l.length + 2) (nI c)) (5 * l.length + 3) (nI d)) (5 * l.length + 4) (nI e) := by rw [em1]; rfl
  have b1 : m1.I 61 = upd (m.I 61) 11 (nI (l.length + 1)) := by rw [em1]; rfl
  refine ⟨m1, ?_, ⟨?_, ?_⟩, ⟨?_, ?_⟩, ?_, ?_⟩
  · have q1 : (m.sI 68 (5 * l.length) (nI a)).I 61 11 = nI l.length := a1
    have q2 : ((m.sI 68 (5 * l.length) (nI a)).sI 68 (5 * l.length + 1) (nI b)).I 61 11 = nI l.length := a1
    have q3 : (((m.sI 68 (5 * l.length) (nI a)).sI 68 (5 * l.length + 1) (nI b)).sI 68 (5 * l.length + 2) (nI c)).I 61 11 = nI l.length := a1
    have q4 : ((((m.sI 68 (5 * l.length) (nI a)).sI 68 (5 * l.length + 1) (nI b)).sI 68 (5 * l.length + 2) (nI c)).sI 68 (5 * l.length + 3) (nI d)).I 61 11 = nI l.length := a1
    have q5 : (((((m.sI 68 (5 * l.length) (nI a)).sI 68 (5 * l.length + 1) (nI b)).sI 68 (5 * l.length + 2) (nI c)).sI 68 (5 * l.length + 3) (nI d)).sI 68 (5 * l.length + 4) (nI e)).I 61 11 = nI l.length := a1
    simp (disch := omega) only [show (5 : Int32) = nI 5 from rfl, pk_mul, add_1, add_2, add_3, show nI (5 * l.length) + (4 : Int32) = nI (5 * l.length + 4) from nI_add _ 4, o_0, g_0_0, g_0_1, g_0_2, g_0_3, g_0_4, p_0_4, g_0_5, g_0_6, g_0_7, g_0_8, g_0_9, g_0_10, g_0_11, o_1, g_1_0, p_1_0, g_1_1, p_1_1, g_1_2, p_1_2, g_1_3, g_1_4, g_1_5, g_1_6, g_1_7, g_1_8, g_1_9, r_2, w_2, r_3, w_3, r_4, w_4, r_5, w_5, r_6, w_6, r_7, w_7, r_8, w_8, o_9, g_9_0, p_9_0, g_9_1, p_9_1, g_9_2, p_9_2, g_9_3, g_9_4, g_9_5, g_9_6, g_9_7, g_9_8, g_9_9, r_10, w_10, r_11, w_11, r_12, w_12, r_13, w_13, r_14, w_14, r_15, w_15, r_16, w_16, o_17, g_17_0, g_17_1, p_17_1, g_17_2, g_17_3, g_17_4, p_17_4, r_18, w_18, r_19, w_19, r_20, w_20, r_22, w_22, r_23, w_23, r_24, w_24, r_25, w_25, r_26, w_26, r_27, w_27, r_28, w_28, o_29, g_29_0, p_29_0, g_29_1, p_29_1, g_29_2, p_29_2, g_29_3, g_29_4, g_29_5, g_29_6, g_29_7, g_29_8, g_29_9, r_30, w_30, r_31, w_31, r_32, w_32, r_33, w_33, r_34, w_34, r_35, w_35, r_36, w_36, o_37, g_37_0, p_37_0, g_37_1, p_37_1, g_37_2, p_37_2, g_37_3, g_37_4, g_37_5, g_37_6, g_37_7, g_37_8, g_37_9, r_38, w_38, r_39, w_39, r_40, w_40, r_41, w_41, r_42, w_42, r_43, w_43, r_44, w_44, o_45, g_45_0, p_45_0, g_45_1, p_45_1, g_45_2, p_45_2, g_45_3, g_45_4, g_45_5, g_45_6, g_45_7, g_45_8, g_45_9, r_46, w_46, r_47, w_47, r_48, w_48, r_49, w_49, r_50, w_50, r_51, w_51, r_52, w_52, o_53, g_53_0, p_53_0, g_53_1, p_53_1, g_53_2, p_53_2, g_53_3, g_53_4, g_53_5, g_53_6, g_53_7, g_53_8, g_53_9, r_54, w_54, r_55, w_55, r_56, w_56, r_57, w_57, r_58, w_58, r_59, w_59, r_60, w_60, o_61, g_61_0, g_61_1, g_61_2, g_61_3, p_61_3, g_61_4, g_61_5, p_61_5, g_61_6, p_61_6, g_61_7, g_61_8, g_61_9, p_61_9, g_61_10, g_61_11, p_61_11, g_61_12, p_61_12, g_61_13, g_61_14, g_61_15, g_61_16, g_61_17, g_61_18, g_61_19, g_61_20, p_61_20, g_61_21, p_61_21, g_61_22, g_61_23, p_61_23, r_62, w_62, r_63, w_63, r_64, w_64, r_65, w_65, r_66, w_66, r_67, w_67, r_68, w_68, r_69, w_69, r_70, w_70, r_71, w_71, r_72, w_72, r_73, w_73, r_74, w_74, r_75, w_75, r_76, w_76, r_77, w_77, Option.bind_some, a1, q1, q2, q3, q4, q5]
    rw [← em1]
  · rw [b1, upd_g, if_pos rfl, List.length_append]
    rfl
  · intro r w hr hw
    rw [List.length_append] at hr
    have hr : r < l.length + 1 := hr
    rw [b8]
    by_cases cr : r = l.length
    · subst cr
      rw [getD_r]
      have : w = 0 ∨ w = 1 ∨ w = 2 ∨ w = 3 ∨ w = 4 := by omega
      rcases this with rfl | rfl | rfl | rfl | rfl
      · rw [upd_g, if_neg (by omega), upd_g, if_neg (by omega), upd_g, if_neg (by omega), upd_g, if_neg (by omega), upd_g, if_pos (by omega)]
        rfl
      · rw [upd_g, if_neg (by omega), upd_g, if_neg (by omega), upd_g, if_neg (by omega), upd_g, if_pos (by omega)]
        rfl
      · rw [upd_g, if_neg (by omega), upd_g, if_neg (by omega), upd_g, if_pos (by omega)]
        rfl
      · rw [upd_g, if_neg (by omega), upd_g, if_pos (by omega)]
        rfl
      · rw [upd_g, if_pos (by omega)]
        rfl
    · rw [getD_l (by omega), upd_g, if_neg (by omega), upd_g, if_neg (by omega), upd_g, if_neg (by omega), upd_g, if_neg (by omega), upd_g, if_neg (by omega)]
      exact a2 r w (by omega) hw
  · rw [em1]
    exact Fr_sI (Fr_sI (Fr_sI (Fr_sI (Fr_sI (Fr_sI (Fr_rf _ m) (Or.inr (Or.inr (Or.inr rfl)))) (Or.inr (Or.inr (Or.inr rfl)))) (Or.inr (Or.inr (Or.inr rfl)))) (Or.inr (Or.inr (Or.inr rfl)))) (Or.inr (Or.inr (Or.inr rfl)))) (Or.inl rfl)
  · intro x x9 x11
    rw [b1, upd_g, if_neg x11]
  · intro x h1 h8
    rw [em1, sI_I, if_neg h1, sI_I, if_neg h8, sI_I, if_neg h8, sI_I, if_neg h8, sI_I, if_neg h8, sI_I, if_neg h8]
  · rw [b1, upd_g, if_neg (by omega)]
