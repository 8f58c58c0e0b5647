/-! giving a triple a sign, and taking it away -/
def gvR (T t : Nat) (v : Int32) (s : Nat → Int32) : Nat → Int32 := if s (3 + 4 * t + 1) = 1 ∧ s (3 + 4 * t) = v then s else gvn t v (upd (if s (3 + 4 * t + 1) = 0 then s else fgt T s) 2 (-100))
def gvM (t : Nat) (v : Int32) (s : Nat → Int32) (M : Nat → Int64) : Nat → Int64 := if s (3 + 4 * t + 1) = 1 ∧ s (3 + 4 * t) = v then M else vp_updL (if s (3 + 4 * t + 1) = 0 then M else fgtM s M) t ((1 : Int64) <<< ((nI t).toInt64 &&& 63))
theorem c_give {m : Mem} {s : Nat → Int32} {M : Nat → Int64} (hs : RS 9 m s M) {T : Nat} (hT : T ≤ 56) (hn : noD T s) {t : Nat} (ht : t < T) (v : Int32) : ∃ m1, f_X3_giveTriple 0 (nI t) v (HH m) = some (HH m1) ∧ RS 9 m1 (gvR T t v s) (gvM t v s M) ∧ Fr (cS 9) m m1 := by
  have q := hs.2.2.2.1 t (by omega)
  have q0 : m.I 10 t = s (3 + 4 * t) := q.1
  have q1 : m.I 11 t = s (3 + 4 * t + 1) := q.2.1
  unfold f_X3_giveTriple
  simp (disch := omega) only [o_0, g_0_0, g_0_1, g_0_2, g_0_3, g_0_4, g_0_5, g_0_6, g_0_7, g_0_8, g_0_9, g_0_10, g_0_11, o_1, g_1_0, g_1_1, g_1_2, g_1_3, g_1_4, g_1_5, g_1_6, g_1_7, g_1_8, g_1_9, r_2, r_3, r_4, r_5, r_6, r_7, r_8, o_9, g_9_0, g_9_1, g_9_2, g_9_3, g_9_4, g_9_5, g_9_6, g_9_7, g_9_8, g_9_9, r_10, r_11, r_12, r_13, r_14, r_15, r_16, o_17, g_17_0, g_17_1, g_17_2, g_17_3, g_17_4, r_18, r_19, r_20, r_22, r_23, r_24, r_25, r_26, r_27, r_28, o_29, g_29_0, g_29_1, g_29_2, g_29_3, g_29_4, g_29_5, g_29_6, g_29_7, g_29_8, g_29_9, r_30, r_31, r_32, r_33, r_34, r_35, r_36, o_37, g_37_0, g_37_1, g_37_2, g_37_3, g_37_4, g_37_5, g_37_6, g_37_7, g_37_8, g_37_9, r_38, r_39, r_40, r_41, r_42, r_43, r_44, o_45, g_45_0, g_45_1, g_45_2, g_45_3, g_45_4, g_45_5, g_45_6, g_45_7, g_45_8, g_45_9, r_46, r_47, r_48, r_49, r_50, r_51, r_52, o_53, g_53_0, g_53_1, g_53_2, g_53_3, g_53_4, g_53_5, g_53_6, g_53_7, g_53_8, g_53_9, r_54, r_55, r_56, r_57, r_58, r_59, r_60, o_61, g_61_0, g_61_1, g_61_2, g_61_3, g_61_4, g_61_5, g_61_6, g_61_7, g_61_8, g_61_9, g_61_10, g_61_11, g_61_12, g_61_13, g_61_14, g_61_15, g_61_16, g_61_17, g_61_18, g_61_19, g_61_20, g_61_21, g_61_22, g_61_23, r_62, r_63, r_64, r_65, r_66, r_67, r_68, r_69, r_70, r_71, r_72, r_73, r_74, r_75, r_76, r_77, Option.bind_some, q0, q1]
  by_cases c : s (3 + 4 * t + 1) = 1 ∧ s (3 + 4 * t) = v
  · rw [if_pos c.1, if_pos c.2]
    exact ⟨m, rfl, by unfold gvR gvM; rw [if_pos c, if_pos c]; exact hs, Fr_rf _ m⟩
  · have e : (if s (3 + 4 * t + 1) = 1 then (if s (3 + 4 * t) = v then some (Sum.inr (HH m)) else some (Sum.inl ())) else some (Sum.inl ()) : Option (Unit ⊕ Hp)) = some (Sum.inl ()) := by
      by_cases c1 : s (3 + 4 * t + 1) = 1
      · rw [if_pos c1, if_neg (fun c2 => c ⟨c1, c2⟩)]
      · rw [if_neg c1]
    rw [e]
    simp only [bindR0]
    by_cases c0 : s (3 + 4 * t + 1) = 0
    · obtain ⟨h1, f1⟩ := c9_clash hs (-100)
      obtain ⟨m2, e2, h2, f2⟩ := c9_given h1 (t := t) (by omega) v
      refine ⟨m2, ?_, ?_, Fr_tr f1 f2⟩
      · rw [if_pos c0]
        simp only [p_9_2, g_0_1, Option.bind_some, e2]
      · unfold gvR gvM
        rw [if_neg c, if_neg c, if_pos c0, if_pos c0]
        exact h2
    · obtain ⟨m1, e1, h1, f1⟩ := c9_forget hs hT hn
      obtain ⟨m2, e2, h2, f2⟩ := c9_given h1 (t := t) (by omega) v
      refine ⟨m2, ?_, ?_, Fr_tr f1 f2⟩
      · rw [if_neg c0, e1]
        simp only [bind2, g_0_1, Option.bind_some, e2]
      · unfold gvR gvM
        rw [if_neg c, if_neg c, if_neg c0, if_neg c0]
        refine RS_cg h2 (fun k hk => ?_) (fun u hu => rfl)
        rw [gvn_g, gvn_g, upd_g]
        by_cases k2 : k = 2
        · subst k2
          rw [if_neg (by omega), if_neg (by omega), if_neg (by omega), if_pos rfl, if_neg (by omega), if_neg (by omega), if_neg (by omega)]
          unfold fgt
          rw [pk_us]
        · rw [if_neg k2]
theorem m_gives (m : Mem) {T : Nat} (hT : T ≤ 56) (h9 : m.I 61 9 = nI T) {t : Nat} (ht : t < T) (v : Int32) : f_X4_gives 61 (nI t) v (HH m) = some (HH (m.rI 62 (gvR T t v (m.I 62)))) := by
  unfold f_X4_gives gvR
  simp (disch := omega) only [o_0, g_0_0, g_0_1, g_0_2, g_0_3, g_0_4, g_0_5, g_0_6, g_0_7, g_0_8, g_0_9, g_0_10, g_0_11, o_1, g_1_0, g_1_1, g_1_2, g_1_3, g_1_4, g_1_5, g_1_6, g_1_7, g_1_8, g_1_9, r_2, r_3, r_4, r_5, r_6, r_7, r_8, o_9, g_9_0, g_9_1, g_9_2, g_9_3, g_9_4, g_9_5, g_9_6, g_9_7, g_9_8, g_9_9, r_10, r_11, r_12, r_13, r_14, r_15, r_16, o_17, g_17_0, g_17_1, g_17_2, g_17_3, g_17_4, r_18, r_19, r_20, r_22, r_23, r_24, r_25, r_26, r_27, r_28, o_29, g_29_0, g_29_1, g_29_2, g_29_3, g_29_4, g_29_5, g_29_6, g_29_7, g_29_8, g_29_9, r_30, r_31, r_32, r_33, r_34, r_35, r_36, o_37, g_37_0, g_37_1, g_37_2, g_37_3, g_37_4, g_37_5, g_37_6, g_37_7, g_37_8, g_37_9, r_38, r_39, r_40, r_41, r_42, r_43, r_44, o_45, g_45_0, g_45_1, g_45_2, g_45_3, g_45_4, g_45_5, g_45_6, g_45_7, g_45_8, g_45_9, r_46, r_47, r_48, r_49, r_50, r_51, r_52, o_53, g_53_0, g_53_1, g_53_2, g_53_3, g_53_4, g_53_5, g_53_6, g_53_7, g_53_8, g_53_9, r_54, r_55, r_56, r_57, r_58, r_59, r_60, o_61, g_61_0, g_61_1, g_61_2, g_61_3, g_61_4, g_61_5, g_61_6, g_61_7, g_61_8, g_61_9, g_61_10, g_61_11, g_61_12, g_61_13, g_61_14, g_61_15, g_61_16, g_61_17, g_61_18, g_61_19, g_61_20, g_61_21, g_61_22, g_61_23, r_62, r_63, r_64, r_65, r_66, r_67, r_68, r_69, r_70, r_71, r_72, r_73, r_74, r_75, r_76, r_77, Option.bind_some, get_0, get_1]
  by_cases c : m.I 62 (3 + 4 * t + 1) = 1 ∧ m.I 62 (3 + 4 * t) = v
  · rw [if_pos c.1, if_pos c.2, if_pos c, rI_id]
    rfl
  · have e : (if m.I 62 (3 + 4 * t + 1) = 1 then (if m.I 62 (3 + 4 * t) = v then some (Sum.inr (HH m)) else some (Sum.inl ())) else some (Sum.inl ()) : Option (Unit ⊕ Hp)) = some (Sum.inl ()) := by
      by_cases c1 : m.I 62 (3 + 4 * t + 1) = 1
      · rw [if_pos c1, if_neg (fun c2 => c ⟨c1, c2⟩)]
      · rw [if_neg c1]
    rw [e, if_neg c]
    simp only [bindR0]
    have fin : ∀ m1 : Mem, (wI (HH m1) 62 (2 : Int32) (-100)) = some (HH (m1.rI 62 (upd (m1.I 62) 2 (-100)))) := fun m1 => w_62 m1 (i := 2) (by omega) (-100)
    by_cases c0 : m.I 62 (3 + 4 * t + 1) = 0
    · rw [if_pos c0, if_pos c0]
      simp (disch := omega) only [bind2, o_0, g_0_0, g_0_1, g_0_2, g_0_3, g_0_4, g_0_5, g_0_6, g_0_7, g_0_8, g_0_9, g_0_10, g_0_11, o_1, g_1_0, g_1_1, g_1_2, g_1_3, g_1_4, g_1_5, g_1_6, g_1_7, g_1_8, g_1_9, r_2, r_3, r_4, r_5, r_6, r_7, r_8, o_9, g_9_0, g_9_1, g_9_2, g_9_3, g_9_4, g_9_5, g_9_6, g_9_7, g_9_8, g_9_9, r_10, r_11, r_12, r_13, r_14, r_15, r_16, o_17, g_17_0, g_17_1, g_17_2, g_17_3, g_17_4, r_18, r_19, r_20, r_22, r_23, r_24, r_25, r_26, r_27, r_28, o_29, g_29_0, g_29_1, g_29_2, g_29_3, g_29_4, g_29_5, g_29_6, g_29_7, g_29_8, g_29_9, r_30, r_31, r_32, r_33, r_34, r_35, r_36, o_37, g_37_0, g_37_1, g_37_2, g_37_3, g_37_4, g_37_5, g_37_6, g_37_7, g_37_8, g_37_9, r_38, r_39, r_40, r_41, r_42, r_43, r_44, o_45, g_45_0, g_45_1, g_45_2, g_45_3, g_45_4, g_45_5, g_45_6, g_45_7, g_45_8, g_45_9, r_46, r_47, r_48, r_49, r_50, r_51, r_52, o_53, g_53_0, g_53_1, g_53_2, g_53_3, g_53_4, g_53_5, g_53_6, g_53_7, g_53_8, g_53_9, r_54, r_55, r_56, r_57, r_58, r_59, r_60, o_61, g_61_0, g_61_1, g_61_2, g_61_3, g_61_4, g_61_5, g_61_6, g_61_7, g_61_8, g_61_9, g_61_10, g_61_11, g_61_12, g_61_13, g_61_14, g_61_15, g_61_16, g_61_17, g_61_18, g_61_19, g_61_20, g_61_21, g_61_22, g_61_23, r_62, r_63, r_64, r_65, r_66, r_67, r_68, r_69, r_70, r_71, r_72, r_73, r_74, r_75, r_76, r_77, fin, Option.bind_some, m_clears, put_0, put_1, sI_r, rI_I, rI_rI]
      rfl
    · rw [if_neg c0, if_neg c0, m_forgets m hT h9]
      simp (disch := omega) only [bind2, o_0, g_0_0, g_0_1, g_0_2, g_0_3, g_0_4, g_0_5, g_0_6, g_0_7, g_0_8, g_0_9, g_0_10, g_0_11, o_1, g_1_0, g_1_1, g_1_2, g_1_3, g_1_4, g_1_5, g_1_6, g_1_7, g_1_8, g_1_9, r_2, r_3, r_4, r_5, r_6, r_7, r_8, o_9, g_9_0, g_9_1, g_9_2, g_9_3, g_9_4, g_9_5, g_9_6, g_9_7, g_9_8, g_9_9, r_10, r_11, r_12, r_13, r_14, r_15, r_16, o_17, g_17_0, g_17_1, g_17_2, g_17_3, g_17_4, r_18, r_19, r_20, r_22, r_23, r_24, r_25, r_26, r_27, r_28, o_29, g_29_0, g_29_1, g_29_2, g_29_3, g_29_4, g_29_5, g_29_6, g_29_7, g_29_8, g_29_9, r_30, r_31, r_32, r_33, r_34, r_35, r_36, o_37, g_37_0, g_37_1, g_37_2, g_37_3, g_37_4, g_37_5, g_37_6, g_37_7, g_37_8, g_37_9, r_38, r_39, r_40, r_41, r_42, r_43, r_44, o_45, g_45_0, g_45_1, g_45_2, g_45_3, g_45_4, g_45_5, g_45_6, g_45_7, g_45_8, g_45_9, r_46, r_47, r_48, r_49, r_50, r_51, r_52, o_53, g_53_0, g_53_1, g_53_2, g_53_3, g_53_4, g_53_5, g_53_6, g_53_7, g_53_8, g_53_9, r_54, r_55, r_56, r_57, r_58, r_59, r_60, o_61, g_61_0, g_61_1, g_61_2, g_61_3, g_61_4, g_61_5, g_61_6, g_61_7, g_61_8, g_61_9, g_61_10, g_61_11, g_61_12, g_61_13, g_61_14, g_61_15, g_61_16, g_61_17, g_61_18, g_61_19, g_61_20, g_61_21, g_61_22, g_61_23, r_62, r_63, r_64, r_65, r_66, r_67, r_68, r_69, r_70, r_71, r_72, r_73, r_74, r_75, r_76, r_77, fin, Option.bind_some, m_clears, put_0, put_1, sI_r, rI_I, rI_rI]
      rfl
/-- taking a triple away -/
def tkR (T t : Nat) (s : Nat → Int32) : Nat → Int32 := clr t (fgt T s)
def tkM (t : Nat) (s : Nat → Int32) (M : Nat → Int64) : Nat → Int64 := vp_updL (fgtM s M) t 0
theorem c_take {m : Mem} {s : Nat → Int32} {M : Nat → Int64} (hs : RS 9 m s M) {T : Nat} (hT : T ≤ 56) (hn : noD T s) {t : Nat} (ht : t < T) : ∃ m1, f_X3_takeAway 0 (nI t) (HH m) = some (HH m1) ∧ RS 9 m1 (tkR T t s) (tkM t s M) ∧ Fr (cS 9) m m1 := by
  obtain ⟨m1, e1, h1, f1⟩ := c9_forget hs hT hn
  obtain ⟨m2, e2, h2, f2⟩ := c9_unknown h1 (t := t) (by omega)
  refine ⟨m2, ?_, h2, Fr_tr f1 f2⟩
  simp only [f_X3_takeAway, o_0, g_0_0, g_0_1, g_0_2, g_0_3, g_0_4, g_0_5, g_0_6, g_0_7, g_0_8, g_0_9, g_0_10, g_0_11, o_1, g_1_0, g_1_1, g_1_2, g_1_3, g_1_4, g_1_5, g_1_6, g_1_7, g_1_8, g_1_9, r_2, r_3, r_4, r_5, r_6, r_7, r_8, o_9, g_9_0, g_9_1, g_9_2, g_9_3, g_9_4, g_9_5, g_9_6, g_9_7, g_9_8, g_9_9, r_10, r_11, r_12, r_13, r_14, r_15, r_16, o_17, g_17_0, g_17_1, g_17_2, g_17_3, g_17_4, r_18, r_19, r_20, r_22, r_23, r_24, r_25, r_26, r_27, r_28, o_29, g_29_0, g_29_1, g_29_2, g_29_3, g_29_4, g_29_5, g_29_6, g_29_7, g_29_8, g_29_9, r_30, r_31, r_32, r_33, r_34, r_35, r_36, o_37, g_37_0, g_37_1, g_37_2, g_37_3, g_37_4, g_37_5, g_37_6, g_37_7, g_37_8, g_37_9, r_38, r_39, r_40, r_41, r_42, r_43, r_44, o_45, g_45_0, g_45_1, g_45_2, g_45_3, g_45_4, g_45_5, g_45_6, g_45_7, g_45_8, g_45_9, r_46, r_47, r_48, r_49, r_50, r_51, r_52, o_53, g_53_0, g_53_1, g_53_2, g_53_3, g_53_4, g_53_5, g_53_6, g_53_7, g_53_8, g_53_9, r_54, r_55, r_56, r_57, r_58, r_59, r_60, o_61, g_61_0, g_61_1, g_61_2, g_61_3, g_61_4, g_61_5, g_61_6, g_61_7, g_61_8, g_61_9, g_61_10, g_61_11, g_61_12, g_61_13, g_61_14, g_61_15, g_61_16, g_61_17, g_61_18, g_61_19, g_61_20, g_61_21, g_61_22, g_61_23, r_62, r_63, r_64, r_65, r_66, r_67, r_68, r_69, r_70, r_71, r_72, r_73, r_74, r_75, r_76, r_77, Option.bind_some, e1, bind2, e2]
