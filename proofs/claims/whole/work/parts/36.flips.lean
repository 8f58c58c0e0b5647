/-! signs that change -/
def flp (p : Nat → Prop) [DecidablePred p] (s : Nat → Int32) : Nat → Nat → Int32
  | 0 => s
  | k + 1 => if p k ∧ s (3 + 4 * k + 1) ≠ 0 then upd (flp p s k) (3 + 4 * k) (-(s (3 + 4 * k))) else flp p s k
theorem flp_s (p : Nat → Prop) [DecidablePred p] (s : Nat → Int32) (k : Nat) : flp p s (k + 1) = if p k ∧ s (3 + 4 * k + 1) ≠ 0 then upd (flp p s k) (3 + 4 * k) (-(s (3 + 4 * k))) else flp p s k := rfl
theorem flp_o {p : Nat → Prop} [DecidablePred p] {s : Nat → Int32} {j : Nat} : ∀ {k : Nat}, (∀ t, t < k → j ≠ 3 + 4 * t) → flp p s k j = s j := by
  intro k
  induction k with
  | zero => intro _; rfl
  | succ k ih =>
    intro h
    rw [flp_s]
    split
    · rw [upd_g, if_neg (h k (by omega))]
      exact ih (fun t ht => h t (by omega))
    · exact ih (fun t ht => h t (by omega))
theorem flp_i {p : Nat → Prop} [DecidablePred p] {s : Nat → Int32} {t : Nat} : ∀ {k : Nat}, t < k → flp p s k (3 + 4 * t) = if p t ∧ s (3 + 4 * t + 1) ≠ 0 then -(s (3 + 4 * t)) else s (3 + 4 * t) := by
  intro k
  induction k with
  | zero => intro h; omega
  | succ k ih =>
    intro h
    rw [flp_s]
    by_cases c : t = k
    · subst c
      split
      · rw [upd_g, if_pos rfl]
      · exact flp_o (fun u hu => by omega)
    · split
      · rw [upd_g, if_neg (by omega)]
        exact ih (by omega)
      · exact ih (by omega)
theorem RS_sg {m : Mem} {s : Nat → Int32} {M : Nat → Int64} (h : RS 9 m s M) {t : Nat} (ht : t < 56) (v : Int32) : RS 9 (m.sI 10 t v) (upd s (3 + 4 * t) v) M ∧ Fr (cS 9) m (m.sI 10 t v) := by
  refine ⟨⟨?_, ?_, ?_, fun u hu => ?_, fun p hp => ?_⟩, Fr_sI (Fr_rf _ m) ⟨by omega, by omega⟩⟩
  · rw [upd_g, if_neg (by omega)]
    exact h.1
  · rw [upd_g, if_neg (by omega)]
    exact h.2.1
  · rw [upd_g, if_neg (by omega)]
    exact h.2.2.1
  · have q := h.2.2.2.1 u hu
    show upd (m.I 10) t v u = _ ∧ m.I 11 u = _ ∧ m.I 12 u = _ ∧ m.I 13 u = _ ∧ m.J 14 u = _
    rw [upd_g, upd_g, upd_g, upd_g, upd_g]
    rw [if_neg (show ¬ 3 + 4 * u + 1 = 3 + 4 * t by omega), if_neg (show ¬ 3 + 4 * u + 2 = 3 + 4 * t by omega), if_neg (show ¬ 3 + 4 * u + 3 = 3 + 4 * t by omega)]
    refine ⟨?_, q.2⟩
    by_cases c : u = t
    · rw [if_pos c, if_pos (by omega)]
    · rw [if_neg c, if_neg (by omega)]
      exact q.1
  · have q := h.2.2.2.2 p hp
    rw [upd_g, upd_g, if_neg (by omega), if_neg (by omega)]
    exact q
theorem LC_9 {n : Nat} {m m1 : Mem} (h : LC n m) (f : Fr (cS 9) m m1) : LC n m1 := LC_of h (fun a _ hb => f.1 a (by unfold cS; omega))
/-- how many triples with p have a sign -/
def cnp (p : Nat → Prop) [DecidablePred p] (s : Nat → Int32) (k : Nat) : Nat := cntN (fun t => p t ∧ s (3 + 4 * t + 1) ≠ 0) k
theorem cnp_s (p : Nat → Prop) [DecidablePred p] (s : Nat → Int32) (k : Nat) : cnp p s (k + 1) = if p k ∧ s (3 + 4 * k + 1) ≠ 0 then cnp p s k + 1 else cnp p s k := rfl
theorem c_negate {n : Nat} (hn : n38 n) {m : Mem} (hL : LC n m) {s : Nat → Int32} {M : Nat → Int64} (hs : RS 9 m s M) : ∃ m1, f_X3_negateAll 0 (HH m) = some (nI (cnp (fun _ => True) s (nT n)), HH m1) ∧ RS 9 m1 (flp (fun _ => True) s (nT n)) M ∧ Fr (cS 9) m m1 := by
  have h8 := nT_le hn
  have key : ∃ b, l_X3_negateAll_4 0 FU (nI 0) (nI 0) (HH m) = some b ∧ ∃ m1, b = (nI (cnp (fun _ => True) s (nT n)), HH m1) ∧ RS 9 m1 (flp (fun _ => True) s (nT n)) M ∧ Fr (cS 9) m m1 := by
    refine loopR (fun fuel (a : Int32 × Int32 × Hp) => l_X3_negateAll_4 0 fuel a.1 a.2.1 a.2.2) (fun k a => ∃ m1, a = (nI (cnp (fun _ => True) s k), nI k, HH m1) ∧ RS 9 m1 (flp (fun _ => True) s k) M ∧ Fr (cS 9) m m1) _ (nT n) ?_ ?_ (nT n) 0 (nI 0, nI 0, HH m) FU (by omega) (FUx (by omega)) ⟨m, rfl, hs, Fr_rf _ m⟩
    · rintro k a fuel hk ⟨m1, rfl, hr, hf⟩
      have hL1 := LC_9 hL hf
      have e11 : m1.I 11 k = s (3 + 4 * k + 1) := by
        rw [show m1.I 11 k = _ from (hr.2.2.2.1 k (by omega)).2.1]
        exact flp_o (fun t ht => by omega)
      have e10 : m1.I 10 k = s (3 + 4 * k) := by
        rw [show m1.I 10 k = _ from (hr.2.2.2.1 k (by omega)).1]
        exact flp_o (fun t ht => by omega)
      by_cases c : s (3 + 4 * k + 1) = 0
      · have cc : ¬ (True ∧ s (3 + 4 * k + 1) ≠ 0) := fun h => h.2 c
        refine Or.inl ⟨(nI (cnp (fun _ => True) s (k + 1)), nI (k + 1), HH m1), ?_, m1, rfl, ?_, hf⟩
        · simp (disch := omega) only [l_X3_negateAll_4, o_0, g_0_0, g_0_1, g_0_2, g_0_3, g_0_4, g_0_5, g_0_6, g_0_7, g_0_8, g_0_9, g_0_10, g_0_11, o_1, g_1_0, g_1_1, g_1_2, g_1_3, g_1_4, g_1_5, g_1_6, g_1_7, g_1_8, g_1_9, r_2, r_3, r_4, r_5, r_6, r_7, r_8, o_9, g_9_0, g_9_1, g_9_2, g_9_3, g_9_4, g_9_5, g_9_6, g_9_7, g_9_8, g_9_9, r_10, r_11, r_12, r_13, r_14, r_15, r_16, o_17, g_17_0, g_17_1, g_17_2, g_17_3, g_17_4, r_18, r_19, r_20, r_22, r_23, r_24, r_25, r_26, r_27, r_28, o_29, g_29_0, g_29_1, g_29_2, g_29_3, g_29_4, g_29_5, g_29_6, g_29_7, g_29_8, g_29_9, r_30, r_31, r_32, r_33, r_34, r_35, r_36, o_37, g_37_0, g_37_1, g_37_2, g_37_3, g_37_4, g_37_5, g_37_6, g_37_7, g_37_8, g_37_9, r_38, r_39, r_40, r_41, r_42, r_43, r_44, o_45, g_45_0, g_45_1, g_45_2, g_45_3, g_45_4, g_45_5, g_45_6, g_45_7, g_45_8, g_45_9, r_46, r_47, r_48, r_49, r_50, r_51, r_52, o_53, g_53_0, g_53_1, g_53_2, g_53_3, g_53_4, g_53_5, g_53_6, g_53_7, g_53_8, g_53_9, r_54, r_55, r_56, r_57, r_58, r_59, r_60, o_61, g_61_0, g_61_1, g_61_2, g_61_3, g_61_4, g_61_5, g_61_6, g_61_7, g_61_8, g_61_9, g_61_10, g_61_11, g_61_12, g_61_13, g_61_14, g_61_15, g_61_16, g_61_17, g_61_18, g_61_19, g_61_20, g_61_21, g_61_22, g_61_23, r_62, r_63, r_64, r_65, r_66, r_67, r_68, r_69, r_70, r_71, r_72, r_73, r_74, r_75, r_76, r_77, Option.bind_some, leN, hL1.2.1, if_neg (show ¬ nT n ≤ k by omega), e11, if_pos c, bind2, add1]
          rw [cnp_s, if_neg cc]
        · rw [flp_s, if_neg cc]
          exact hr
      · have cc : True ∧ s (3 + 4 * k + 1) ≠ 0 := ⟨trivial, c⟩
        obtain ⟨r2, f2⟩ := RS_sg hr (t := k) (by omega) (-(s (3 + 4 * k)))
        refine Or.inl ⟨(nI (cnp (fun _ => True) s (k + 1)), nI (k + 1), HH (m1.sI 10 k (-(s (3 + 4 * k))))), ?_, _, rfl, ?_, Fr_tr hf f2⟩
        · simp (disch := omega) only [l_X3_negateAll_4, o_0, g_0_0, g_0_1, g_0_2, g_0_3, g_0_4, p_0_4, g_0_5, g_0_6, g_0_7, g_0_8, g_0_9, g_0_10, g_0_11, o_1, g_1_0, p_1_0, g_1_1, p_1_1, g_1_2, p_1_2, g_1_3, g_1_4, g_1_5, g_1_6, g_1_7, g_1_8, g_1_9, r_2, w_2, r_3, w_3, r_4, w_4, r_5, w_5, r_6, w_6, r_7, w_7, r_8, w_8, o_9, g_9_0, p_9_0, g_9_1, p_9_1, g_9_2, p_9_2, g_9_3, g_9_4, g_9_5, g_9_6, g_9_7, g_9_8, g_9_9, r_10, w_10, r_11, w_11, r_12, w_12, r_13, w_13, r_14, w_14, r_15, w_15, r_16, w_16, o_17, g_17_0, g_17_1, p_17_1, g_17_2, g_17_3, g_17_4, p_17_4, r_18, w_18, r_19, w_19, r_20, w_20, r_22, w_22, r_23, w_23, r_24, w_24, r_25, w_25, r_26, w_26, r_27, w_27, r_28, w_28, o_29, g_29_0, p_29_0, g_29_1, p_29_1, g_29_2, p_29_2, g_29_3, g_29_4, g_29_5, g_29_6, g_29_7, g_29_8, g_29_9, r_30, w_30, r_31, w_31, r_32, w_32, r_33, w_33, r_34, w_34, r_35, w_35, r_36, w_36, o_37, g_37_0, p_37_0, g_37_1, p_37_1, g_37_2, p_37_2, g_37_3, g_37_4, g_37_5, g_37_6, g_37_7, g_37_8, g_37_9, r_38, w_38, r_39, w_39, r_40, w_40, r_41, w_41, r_42, w_42, r_43, w_43, r_44, w_44, o_45, g_45_0, p_45_0, g_45_1, p_45_1, g_45_2, p_45_2, g_45_3, g_45_4, g_45_5, g_45_6, g_45_7, g_45_8, g_45_9, r_46, w_46, r_47, w_47, r_48, w_48, r_49, w_49, r_50, w_50, r_51, w_51, r_52, w_52, o_53, g_53_0, p_53_0, g_53_1, p_53_1, g_53_2, p_53_2, g_53_3, g_53_4, g_53_5, g_53_6, g_53_7, g_53_8, g_53_9, r_54, w_54, r_55, w_55, r_56, w_56, r_57, w_57, r_58, w_58, r_59, w_59, r_60, w_60, o_61, g_61_0, g_61_1, g_61_2, g_61_3, p_61_3, g_61_4, g_61_5, p_61_5, g_61_6, p_61_6, g_61_7, g_61_8, g_61_9, p_61_9, g_61_10, g_61_11, p_61_11, g_61_12, p_61_12, g_61_13, g_61_14, g_61_15, g_61_16, g_61_17, g_61_18, g_61_19, g_61_20, p_61_20, g_61_21, p_61_21, g_61_22, g_61_23, p_61_23, r_62, w_62, r_63, w_63, r_64, w_64, r_65, w_65, r_66, w_66, r_67, w_67, r_68, w_68, r_69, w_69, r_70, w_70, r_71, w_71, r_72, w_72, r_73, w_73, r_74, w_74, r_75, w_75, r_76, w_76, r_77, w_77, Option.bind_some, leN, hL1.2.1, if_neg (show ¬ nT n ≤ k by omega), e11, e10, if_neg c, bind2, add1]
          rw [cnp_s, if_pos cc]
        · rw [flp_s, if_pos cc]
          exact r2
    · rintro a fuel ⟨m1, rfl, hr, hf⟩
      have hL1 := LC_9 hL hf
      refine ⟨_, ?_, m1, rfl, hr, hf⟩
      simp (disch := omega) only [l_X3_negateAll_4, o_0, g_0_0, g_0_1, g_0_2, g_0_3, g_0_4, g_0_5, g_0_6, g_0_7, g_0_8, g_0_9, g_0_10, g_0_11, o_1, g_1_0, g_1_1, g_1_2, g_1_3, g_1_4, g_1_5, g_1_6, g_1_7, g_1_8, g_1_9, r_2, r_3, r_4, r_5, r_6, r_7, r_8, o_9, g_9_0, g_9_1, g_9_2, g_9_3, g_9_4, g_9_5, g_9_6, g_9_7, g_9_8, g_9_9, r_10, r_11, r_12, r_13, r_14, r_15, r_16, o_17, g_17_0, g_17_1, g_17_2, g_17_3, g_17_4, r_18, r_19, r_20, r_22, r_23, r_24, r_25, r_26, r_27, r_28, o_29, g_29_0, g_29_1, g_29_2, g_29_3, g_29_4, g_29_5, g_29_6, g_29_7, g_29_8, g_29_9, r_30, r_31, r_32, r_33, r_34, r_35, r_36, o_37, g_37_0, g_37_1, g_37_2, g_37_3, g_37_4, g_37_5, g_37_6, g_37_7, g_37_8, g_37_9, r_38, r_39, r_40, r_41, r_42, r_43, r_44, o_45, g_45_0, g_45_1, g_45_2, g_45_3, g_45_4, g_45_5, g_45_6, g_45_7, g_45_8, g_45_9, r_46, r_47, r_48, r_49, r_50, r_51, r_52, o_53, g_53_0, g_53_1, g_53_2, g_53_3, g_53_4, g_53_5, g_53_6, g_53_7, g_53_8, g_53_9, r_54, r_55, r_56, r_57, r_58, r_59, r_60, o_61, g_61_0, g_61_1, g_61_2, g_61_3, g_61_4, g_61_5, g_61_6, g_61_7, g_61_8, g_61_9, g_61_10, g_61_11, g_61_12, g_61_13, g_61_14, g_61_15, g_61_16, g_61_17, g_61_18, g_61_19, g_61_20, g_61_21, g_61_22, g_61_23, r_62, r_63, r_64, r_65, r_66, r_67, r_68, r_69, r_70, r_71, r_72, r_73, r_74, r_75, r_76, r_77, Option.bind_some, leN, hL1.2.1, if_pos (Nat.le_refl (nT n))]
  obtain ⟨b, e, m1, rfl, hr, hf⟩ := key
  refine ⟨m1, ?_, hr, hf⟩
  simp only [f_X3_negateAll, o_0, Option.bind_some]
  rw [show l_X3_negateAll_4 0 FU 0 0 (HH m) = _ from e]
  rfl
theorem cl_has {n : Nat} (hn : n38 n) {m : Mem} (hL : LC n m) {t j : Nat} (ht : t < nT n) (hj : j < n) : f_X0_hasCorner 1 (nI t) (nI j) (HH m) = some (if cor n t 0 = j ∨ cor n t 1 = j ∨ cor n t 2 = j then 1 else 0) := by
  have h8 := hn.2
  have k0 := cl_cor hn hL (w := 0) ht (by omega)
  have k1 := cl_cor hn hL (w := 1) ht (by omega)
  have k2 := cl_cor hn hL (w := 2) ht (by omega)
  have q0 : nI (cor n t 0) = nI j ↔ cor n t 0 = j := ne_of hn (cor_lt hn t ht 0 (by omega)) hj
  have q1 : nI (cor n t 1) = nI j ↔ cor n t 1 = j := ne_of hn (cor_lt hn t ht 1 (by omega)) hj
  have q2 : nI (cor n t 2) = nI j ↔ cor n t 2 = j := ne_of hn (cor_lt hn t ht 2 (by omega)) hj
  unfold f_X0_hasCorner
  rw [o_1, Option.bind_some, show f_X0_corner 1 (nI t) 0 (HH m) = _ from k0, Option.bind_some]
  by_cases c0 : cor n t 0 = j
  · rw [if_pos (q0.mpr c0), if_pos (Or.inl c0)]
  · rw [if_neg (fun h => c0 (q0.mp h)), show f_X0_corner 1 (nI t) 1 (HH m) = _ from k1, Option.bind_some]
    by_cases c1 : cor n t 1 = j
    · rw [if_pos (q1.mpr c1), if_pos (Or.inr (Or.inl c1))]
    · rw [if_neg (fun h => c1 (q1.mp h)), show f_X0_corner 1 (nI t) 2 (HH m) = _ from k2, Option.bind_some]
      by_cases c2 : cor n t 2 = j
      · rw [if_pos (q2.mpr c2), if_pos (Or.inr (Or.inr c2))]
      · rw [if_neg (fun h => c2 (q2.mp h)), if_neg (by omega)]
theorem c_turn {n : Nat} (hn : n38 n) {m : Mem} (hL : LC n m) {s : Nat → Int32} {M : Nat → Int64} (hs : RS 9 m s M) {j : Nat} (hj : j < n) : ∃ m1, l_X3_turn_13 0 (nI j) FU 0 0 (HH m) = some (nI (cnp (fun t => cor n t 0 = j ∨ cor n t 1 = j ∨ cor n t 2 = j) s (nT n)), HH m1) ∧ RS 9 m1 (flp (fun t => cor n t 0 = j ∨ cor n t 1 = j ∨ cor n t 2 = j) s (nT n)) M ∧ Fr (cS 9) m m1 := by
  have h8 := nT_le hn
  have key : ∃ b, l_X3_turn_13 0 (nI j) FU (nI 0) (nI 0) (HH m) = some b ∧ ∃ m1, b = (nI (cnp (fun t => cor n t 0 = j ∨ cor n t 1 = j ∨ cor n t 2 = j) s (nT n)), HH m1) ∧ RS 9 m1 (flp (fun t => cor n t 0 = j ∨ cor n t 1 = j ∨ cor n t 2 = j) s (nT n)) M ∧ Fr (cS 9) m m1 := by
    refine loopR (fun fuel (a : Int32 × Int32 × Hp) => l_X3_turn_13 0 (nI j) fuel a.1 a.2.1 a.2.2) (fun k a => ∃ m1, a = (nI (cnp (fun t => cor n t 0 = j ∨ cor n t 1 = j ∨ cor n t 2 = j) s k), nI k, HH m1) ∧ RS 9 m1 (flp (fun t => cor n t 0 = j ∨ cor n t 1 = j ∨ cor n t 2 = j) s k) M ∧ Fr (cS 9) m m1) _ (nT n) ?_ ?_ (nT n) 0 (nI 0, nI 0, HH m) FU (by omega) (FUx (by omega)) ⟨m, rfl, hs, Fr_rf _ m⟩
    · rintro k a fuel hk ⟨m1, rfl, hr, hf⟩
      have hL1 := LC_9 hL hf
      have e11 : m1.I 11 k = s (3 + 4 * k + 1) := by
        rw [show m1.I 11 k = _ from (hr.2.2.2.1 k (by omega)).2.1]
        exact flp_o (fun t ht => by omega)
      have e10 : m1.I 10 k = s (3 + 4 * k) := by
        rw [show m1.I 10 k = _ from (hr.2.2.2.1 k (by omega)).1]
        exact flp_o (fun t ht => by omega)
      have eh := cl_has hn hL1 hk hj
      by_cases d : cor n k 0 = j ∨ cor n k 1 = j ∨ cor n k 2 = j
      · rw [if_pos d] at eh
        by_cases c : s (3 + 4 * k + 1) = 0
        · have cc : ¬ ((cor n k 0 = j ∨ cor n k 1 = j ∨ cor n k 2 = j) ∧ s (3 + 4 * k + 1) ≠ 0) := fun h => h.2 c
          refine Or.inl ⟨(nI (cnp (fun t => cor n t 0 = j ∨ cor n t 1 = j ∨ cor n t 2 = j) s (k + 1)), nI (k + 1), HH m1), ?_, m1, rfl, ?_, hf⟩
          · simp (disch := omega) only [l_X3_turn_13, o_0, g_0_0, g_0_1, g_0_2, g_0_3, g_0_4, g_0_5, g_0_6, g_0_7, g_0_8, g_0_9, g_0_10, g_0_11, o_1, g_1_0, g_1_1, g_1_2, g_1_3, g_1_4, g_1_5, g_1_6, g_1_7, g_1_8, g_1_9, r_2, r_3, r_4, r_5, r_6, r_7, r_8, o_9, g_9_0, g_9_1, g_9_2, g_9_3, g_9_4, g_9_5, g_9_6, g_9_7, g_9_8, g_9_9, r_10, r_11, r_12, r_13, r_14, r_15, r_16, o_17, g_17_0, g_17_1, g_17_2, g_17_3, g_17_4, r_18, r_19, r_20, r_22, r_23, r_24, r_25, r_26, r_27, r_28, o_29, g_29_0, g_29_1, g_29_2, g_29_3, g_29_4, g_29_5, g_29_6, g_29_7, g_29_8, g_29_9, r_30, r_31, r_32, r_33, r_34, r_35, r_36, o_37, g_37_0, g_37_1, g_37_2, g_37_3, g_37_4, g_37_5, g_37_6, g_37_7, g_37_8, g_37_9, r_38, r_39, r_40, r_41, r_42, r_43, r_44, o_45, g_45_0, g_45_1, g_45_2, g_45_3, g_45_4, g_45_5, g_45_6, g_45_7, g_45_8, g_45_9, r_46, r_47, r_48, r_49, r_50, r_51, r_52, o_53, g_53_0, g_53_1, g_53_2, g_53_3, g_53_4, g_53_5, g_53_6, g_53_7, g_53_8, g_53_9, r_54, r_55, r_56, r_57, r_58, r_59, r_60, o_61, g_61_0, g_61_1, g_61_2, g_61_3, g_61_4, g_61_5, g_61_6, g_61_7, g_61_8, g_61_9, g_61_10, g_61_11, g_61_12, g_61_13, g_61_14, g_61_15, g_61_16, g_61_17, g_61_18, g_61_19, g_61_20, g_61_21, g_61_22, g_61_23, r_62, r_63, r_64, r_65, r_66, r_67, r_68, r_69, r_70, r_71, r_72, r_73, r_74, r_75, r_76, r_77, Option.bind_some, leN, hL1.2.1, if_neg (show ¬ nT n ≤ k by omega), eh, if_neg (show ¬ (1 : Int32) = 0 by decide), e11, if_pos c, bind2, add1]
            rw [cnp_s, if_neg cc]
          · rw [flp_s, if_neg cc]
            exact hr
        · have cc : (cor n k 0 = j ∨ cor n k 1 = j ∨ cor n k 2 = j) ∧ s (3 + 4 * k + 1) ≠ 0 := ⟨d, c⟩
          obtain ⟨r2, f2⟩ := RS_sg hr (t := k) (by omega) (-(s (3 + 4 * k)))
          refine Or.inl ⟨(nI (cnp (fun t => cor n t 0 = j ∨ cor n t 1 = j ∨ cor n t 2 = j) s (k + 1)), nI (k + 1), HH (m1.sI 10 k (-(s (3 + 4 * k))))), ?_, _, rfl, ?_, Fr_tr hf f2⟩
          · simp (disch := omega) only [l_X3_turn_13, o_0, g_0_0, g_0_1, g_0_2, g_0_3, g_0_4, p_0_4, g_0_5, g_0_6, g_0_7, g_0_8, g_0_9, g_0_10, g_0_11, o_1, g_1_0, p_1_0, g_1_1, p_1_1, g_1_2, p_1_2, g_1_3, g_1_4, g_1_5, g_1_6, g_1_7, g_1_8, g_1_9, r_2, w_2, r_3, w_3, r_4, w_4, r_5, w_5, r_6, w_6, r_7, w_7, r_8, w_8, o_9, g_9_0, p_9_0, g_9_1, p_9_1, g_9_2, p_9_2, g_9_3, g_9_4, g_9_5, g_9_6, g_9_7, g_9_8, g_9_9, r_10, w_10, r_11, w_11, r_12, w_12, r_13, w_13, r_14, w_14, r_15, w_15, r_16, w_16, o_17, g_17_0, g_17_1, p_17_1, g_17_2, g_17_3, g_17_4, p_17_4, r_18, w_18, r_19, w_19, r_20, w_20, r_22, w_22, r_23, w_23, r_24, w_24, r_25, w_25, r_26, w_26, r_27, w_27, r_28, w_28, o_29, g_29_0, p_29_0, g_29_1, p_29_1, g_29_2, p_29_2, g_29_3, g_29_4, g_29_5, g_29_6, g_29_7, g_29_8, g_29_9, r_30, w_30, r_31, w_31, r_32, w_32, r_33, w_33, r_34, w_34, r_35, w_35, r_36, w_36, o_37, g_37_0, p_37_0, g_37_1, p_37_1, g_37_2, p_37_2, g_37_3, g_37_4, g_37_5, g_37_6, g_37_7, g_37_8, g_37_9, r_38, w_38, r_39, w_39, r_40, w_40, r_41, w_41, r_42, w_42, r_43, w_43, r_44, w_44, o_45, g_45_0, p_45_0, g_45_1, p_45_1, g_45_2, p_45_2, g_45_3, g_45_4, g_45_5, g_45_6, g_45_7, g_45_8, g_45_9, r_46, w_46, r_47, w_47, r_48, w_48, r_49, w_49, r_50, w_50, r_51, w_51, r_52, w_52, o_53, g_53_0, p_53_0, g_53_1, p_53_1, g_53_2, p_53_2, g_53_3, g_53_4, g_53_5, g_53_6, g_53_7, g_53_8, g_53_9, r_54, w_54, r_55, w_55, r_56, w_56, r_57, w_57, r_58, w_58, r_59, w_59, r_60, w_60, o_61, g_61_0, g_61_1, g_61_2, g_61_3, p_61_3, g_61_4, g_61_5, p_61_5, g_61_6, p_61_6, g_61_7, g_61_8, g_61_9, p_61_9, g_61_10, g_61_11, p_61_11, g_61_12, p_61_12, g_61_13, g_61_14, g_61_15, g_61_16, g_61_17, g_61_18, g_61_19, g_61_20, p_61_20, g_61_21, p_61_21, g_61_22, g_61_23, p_61_23, r_62, w_62, r_63, w_63, r_64, w_64, r_65, w_65, r_66, w_66, r_67, w_67, r_68, w_68, r_69, w_69, r_70, w_70, r_71, w_71, r_72, w_72, r_73, w_73, r_74, w_74, r_75, w_75, r_76, w_76, r_77, w_77, Option.bind_some, leN, hL1.2.1, if_neg (show ¬ nT n ≤ k by omega), eh, if_neg (show ¬ (1 : Int32) = 0 by decide), e11, e10, if_neg c, bind2, add1]
            rw [cnp_s, if_pos cc]
          · rw [flp_s, if_pos cc]
            exact r2
      · rw [if_neg d] at eh
        have cc : ¬ ((cor n k 0 = j ∨ cor n k 1 = j ∨ cor n k 2 = j) ∧ s (3 + 4 * k + 1) ≠ 0) := fun h => d h.1
        refine Or.inl ⟨(nI (cnp (fun t => cor n t 0 = j ∨ cor n t 1 = j ∨ cor n t 2 = j) s (k + 1)), nI (k + 1), HH m1), ?_, m1, rfl, ?_, hf⟩
        · simp (disch := omega) only [l_X3_turn_13, o_0, g_0_0, g_0_1, g_0_2, g_0_3, g_0_4, g_0_5, g_0_6, g_0_7, g_0_8, g_0_9, g_0_10, g_0_11, o_1, g_1_0, g_1_1, g_1_2, g_1_3, g_1_4, g_1_5, g_1_6, g_1_7, g_1_8, g_1_9, r_2, r_3, r_4, r_5, r_6, r_7, r_8, o_9, g_9_0, g_9_1, g_9_2, g_9_3, g_9_4, g_9_5, g_9_6, g_9_7, g_9_8, g_9_9, r_10, r_11, r_12, r_13, r_14, r_15, r_16, o_17, g_17_0, g_17_1, g_17_2, g_17_3, g_17_4, r_18, r_19, r_20, r_22, r_23, r_24, r_25, r_26, r_27, r_28, o_29, g_29_0, g_29_1, g_29_2, g_29_3, g_29_4, g_29_5, g_29_6, g_29_7, g_29_8, g_29_9, r_30, r_31, r_32, r_33, r_34, r_35, r_36, o_37, g_37_0, g_37_1, g_37_2, g_37_3, g_37_4, g_37_5, g_37_6, g_37_7, g_37_8, g_37_9, r_38, r_39, r_40, r_41, r_42, r_43, r_44, o_45, g_45_0, g_45_1, g_45_2, g_45_3, g_45_4, g_45_5, g_45_6, g_45_7, g_45_8, g_45_9, r_46, r_47, r_48, r_49, r_50, r_51, r_52, o_53, g_53_0, g_53_1, g_53_2, g_53_3, g_53_4, g_53_5, g_53_6, g_53_7, g_53_8, g_53_9, r_54, r_55, r_56, r_57, r_58, r_59, r_60, o_61, g_61_0, g_61_1, g_61_2, g_61_3, g_61_4, g_61_5, g_61_6, g_61_7, g_61_8, g_61_9, g_61_10, g_61_11, g_61_12, g_61_13, g_61_14, g_61_15, g_61_16, g_61_17, g_61_18, g_61_19, g_61_20, g_61_21, g_61_22, g_61_23, r_62, r_63, r_64, r_65, r_66, r_67, r_68, r_69, r_70, r_71, r_72, r_73, r_74, r_75, r_76, r_77, Option.bind_some, leN, hL1.2.1, if_neg (show ¬ nT n ≤ k by omega), eh, if_true, bind2, add1]
          rw [cnp_s, if_neg cc]
        · rw [flp_s, if_neg cc]
          exact hr
    · rintro a fuel ⟨m1, rfl, hr, hf⟩
      have hL1 := LC_9 hL hf
      refine ⟨_, ?_, m1, rfl, hr, hf⟩
      simp (disch := omega) only [l_X3_turn_13, o_0, g_0_0, g_0_1, g_0_2, g_0_3, g_0_4, g_0_5, g_0_6, g_0_7, g_0_8, g_0_9, g_0_10, g_0_11, o_1, g_1_0, g_1_1, g_1_2, g_1_3, g_1_4, g_1_5, g_1_6, g_1_7, g_1_8, g_1_9, r_2, r_3, r_4, r_5, r_6, r_7, r_8, o_9, g_9_0, g_9_1, g_9_2, g_9_3, g_9_4, g_9_5, g_9_6, g_9_7, g_9_8, g_9_9, r_10, r_11, r_12, r_13, r_14, r_15, r_16, o_17, g_17_0, g_17_1, g_17_2, g_17_3, g_17_4, r_18, r_19, r_20, r_22, r_23, r_24, r_25, r_26, r_27, r_28, o_29, g_29_0, g_29_1, g_29_2, g_29_3, g_29_4, g_29_5, g_29_6, g_29_7, g_29_8, g_29_9, r_30, r_31, r_32, r_33, r_34, r_35, r_36, o_37, g_37_0, g_37_1, g_37_2, g_37_3, g_37_4, g_37_5, g_37_6, g_37_7, g_37_8, g_37_9, r_38, r_39, r_40, r_41, r_42, r_43, r_44, o_45, g_45_0, g_45_1, g_45_2, g_45_3, g_45_4, g_45_5, g_45_6, g_45_7, g_45_8, g_45_9, r_46, r_47, r_48, r_49, r_50, r_51, r_52, o_53, g_53_0, g_53_1, g_53_2, g_53_3, g_53_4, g_53_5, g_53_6, g_53_7, g_53_8, g_53_9, r_54, r_55, r_56, r_57, r_58, r_59, r_60, o_61, g_61_0, g_61_1, g_61_2, g_61_3, g_61_4, g_61_5, g_61_6, g_61_7, g_61_8, g_61_9, g_61_10, g_61_11, g_61_12, g_61_13, g_61_14, g_61_15, g_61_16, g_61_17, g_61_18, g_61_19, g_61_20, g_61_21, g_61_22, g_61_23, r_62, r_63, r_64, r_65, r_66, r_67, r_68, r_69, r_70, r_71, r_72, r_73, r_74, r_75, r_76, r_77, Option.bind_some, leN, hL1.2.1, if_pos (Nat.le_refl (nT n))]
  obtain ⟨b, e, m1, rfl, hr, hf⟩ := key
  exact ⟨m1, e, hr, hf⟩
/-- the reference's signs change; a (p) says which of its triples -/
theorem m_flips {n : Nat} (hn : n38 n) {m : Mem} (hL : LM n m) {M : Nat → Int64} (hg : ∀ t, t < 56 → gTr n (m.I 62) M t) (p : Nat → Prop) [DecidablePred p] (a : Int32)
    (hp : ∀ (m1 : Mem) (k : Nat), LM n m1 → k < nT n → (if a = (-100 : Int32) then some (1 : Int32) else (fR 4 7 (HH m1) 61).bind fun v19 => (aI (HH m1) v19 ((3 : Int32) * nI k)).bind fun v20 => if v20 = a then some (1 : Int32) else (fR 4 7 (HH m1) 61).bind fun v22 => (aI (HH m1) v22 (((3 : Int32) * nI k) + (1 : Int32))).bind fun v23 => if v23 = a then some (1 : Int32) else (fR 4 7 (HH m1) 61).bind fun v25 => (aI (HH m1) v25 (((3 : Int32) * nI k) + (2 : Int32))).bind fun v26 => if v26 = a then some (1 : Int32) else some (0 : Int32)) = some (if p k then 1 else 0)) :
    f_X4_flips 61 a (HH m) = some (nI (cnp p (m.I 62) (nT n)), HH (m.rI 62 (flp p (m.I 62) (nT n)))) := by
  have h8 := nT_le hn
  have key : ∃ b, l_X4_flips_4 61 a FU (nI 0) (nI 0) (HH m) = some b ∧ b = (nI (cnp p (m.I 62) (nT n)), HH (m.rI 62 (flp p (m.I 62) (nT n)))) := by
    refine loopR (fun fuel (x : Int32 × Int32 × Hp) => l_X4_flips_4 61 a fuel x.1 x.2.1 x.2.2) (fun k x => x = (nI (cnp p (m.I 62) k), nI k, HH (m.rI 62 (flp p (m.I 62) k)))) _ (nT n) ?_ ?_ (nT n) 0 (nI 0, nI 0, HH m) FU (by omega) (FUx (by omega)) (by
      show _ = (nI 0, nI 0, HH (m.rI 62 (m.I 62)))
      rw [rI_id])
    · rintro k x fuel hk rfl
      have hL1 : LM n (m.rI 62 (flp p (m.I 62) k)) := LM_fr hL rfl rfl rfl rfl rfl
      have e9 := hL1.1
      have e0 : flp p (m.I 62) k (3 + 4 * k) = m.I 62 (3 + 4 * k) := flp_o (fun t ht => by omega)
      refine Or.inl ⟨(nI (cnp p (m.I 62) (k + 1)), nI (k + 1), HH (m.rI 62 (flp p (m.I 62) (k + 1)))), ?_, rfl⟩
      simp (disch := omega) only [l_X4_flips_4, g_61_9, e9, leN, if_neg (show ¬ nT n ≤ k by omega), Option.bind_some, get_0, rI_I, e0, put_0, rI_sI]
      rw [hp _ k hL1 hk, Option.bind_some]
      by_cases d : p k
      · rw [if_pos d, if_neg (show ¬ (1 : Int32) = 0 by decide)]
        by_cases c : m.I 62 (3 + 4 * k + 1) = 0
        · have cc : ¬ (p k ∧ m.I 62 (3 + 4 * k + 1) ≠ 0) := fun h => h.2 c
          have cs : m.I 62 (3 + 4 * k) = -100 := by
            rcases hg k (by omega) with g | g | ⟨r, st, g⟩
            · exact g.2.1
            · exact absurd (g.2.1.symm.trans c) (by decide)
            · exact absurd (g.2.1.symm.trans c) (by decide)
          rw [if_pos cs, cnp_s, flp_s, if_neg cc, if_neg cc]
          simp only [bind2, add_1]
        · have cc : p k ∧ m.I 62 (3 + 4 * k + 1) ≠ 0 := ⟨d, c⟩
          have cs : ¬ m.I 62 (3 + 4 * k) = -100 := by
            rcases hg k (by omega) with g | g | ⟨r, st, g⟩
            · exact absurd g.1 c
            · rcases g.2.2.1 with e | e | e <;> rw [e] <;> decide
            · rcases g.2.2.1 with e | e | e <;> rw [e] <;> decide
          rw [if_neg cs, cnp_s, flp_s, if_pos cc, if_pos cc]
          simp only [bind2, add_1]
      · have cc : ¬ (p k ∧ m.I 62 (3 + 4 * k + 1) ≠ 0) := fun h => d h.1
        rw [if_neg d, if_pos rfl, cnp_s, flp_s, if_neg cc, if_neg cc]
        simp only [bind2, add_1]
    · rintro x fuel rfl
      have hL1 : LM n (m.rI 62 (flp p (m.I 62) (nT n))) := LM_fr hL rfl rfl rfl rfl rfl
      refine ⟨_, ?_, rfl⟩
      simp (disch := omega) only [l_X4_flips_4, g_61_9, hL1.1, leN, if_pos (Nat.le_refl (nT n)), Option.bind_some]
  obtain ⟨b, e, rfl⟩ := key
  simp only [f_X4_flips, o_61, Option.bind_some]
  rw [show l_X4_flips_4 61 a FU 0 0 (HH m) = _ from e]
  rfl
theorem m_flips0 {n : Nat} (hn : n38 n) {m : Mem} (hL : LM n m) {M : Nat → Int64} (hg : ∀ t, t < 56 → gTr n (m.I 62) M t) : f_X4_flips 61 (-100) (HH m) = some (nI (cnp (fun _ => True) (m.I 62) (nT n)), HH (m.rI 62 (flp (fun _ => True) (m.I 62) (nT n)))) :=
  m_flips hn hL hg (fun _ => True) (-100) (fun m1 k _ _ => by rw [if_pos rfl, if_pos trivial])
theorem m_flips1 {n : Nat} (hn : n38 n) {m : Mem} (hL : LM n m) {M : Nat → Int64} (hg : ∀ t, t < 56 → gTr n (m.I 62) M t) {j : Nat} (hj : j < n) : f_X4_flips 61 (nI j) (HH m) = some (nI (cnp (fun t => cor n t 0 = j ∨ cor n t 1 = j ∨ cor n t 2 = j) (m.I 62) (nT n)), HH (m.rI 62 (flp (fun t => cor n t 0 = j ∨ cor n t 1 = j ∨ cor n t 2 = j) (m.I 62) (nT n)))) :=
  m_flips hn hL hg (fun t => cor n t 0 = j ∨ cor n t 1 = j ∨ cor n t 2 = j) (nI j) (fun m1 t h1 ht => by
    have h8 := hn.2
    have hT := nT_le hn
    have k0 := h1.2.2.1 t 0 ht (by omega)
    have k1 := h1.2.2.1 t 1 ht (by omega)
    have k2 := h1.2.2.1 t 2 ht (by omega)
    rw [Nat.add_zero] at k0
    have q0 : nI (cor n t 0) = nI j ↔ cor n t 0 = j := ne_of hn (cor_lt hn t ht 0 (by omega)) hj
    have q1 : nI (cor n t 1) = nI j ↔ cor n t 1 = j := ne_of hn (cor_lt hn t ht 1 (by omega)) hj
    have q2 : nI (cor n t 2) = nI j ↔ cor n t 2 = j := ne_of hn (cor_lt hn t ht 2 (by omega)) hj
    rw [if_neg (show ¬ nI j = (-100 : Int32) from fun e => by
      have := congrArg Int32.toInt e
      rw [nI_toInt (by omega)] at this
      have k : (-100 : Int32).toInt = -100 := by decide
      omega)]
    simp (disch := omega) only [show (3 : Int32) = nI 3 from rfl, pk_mul, add_1, add_2, o_0, g_0_0, g_0_1, g_0_2, g_0_3, g_0_4, g_0_5, g_0_6, g_0_7, g_0_8, g_0_9, g_0_10, g_0_11, o_1, g_1_0, g_1_1, g_1_2, g_1_3, g_1_4, g_1_5, g_1_6, g_1_7, g_1_8, g_1_9, r_2, r_3, r_4, r_5, r_6, r_7, r_8, o_9, g_9_0, g_9_1, g_9_2, g_9_3, g_9_4, g_9_5, g_9_6, g_9_7, g_9_8, g_9_9, r_10, r_11, r_12, r_13, r_14, r_15, r_16, o_17, g_17_0, g_17_1, g_17_2, g_17_3, g_17_4, r_18, r_19, r_20, r_22, r_23, r_24, r_25, r_26, r_27, r_28, o_29, g_29_0, g_29_1, g_29_2, g_29_3, g_29_4, g_29_5, g_29_6, g_29_7, g_29_8, g_29_9, r_30, r_31, r_32, r_33, r_34, r_35, r_36, o_37, g_37_0, g_37_1, g_37_2, g_37_3, g_37_4, g_37_5, g_37_6, g_37_7, g_37_8, g_37_9, r_38, r_39, r_40, r_41, r_42, r_43, r_44, o_45, g_45_0, g_45_1, g_45_2, g_45_3, g_45_4, g_45_5, g_45_6, g_45_7, g_45_8, g_45_9, r_46, r_47, r_48, r_49, r_50, r_51, r_52, o_53, g_53_0, g_53_1, g_53_2, g_53_3, g_53_4, g_53_5, g_53_6, g_53_7, g_53_8, g_53_9, r_54, r_55, r_56, r_57, r_58, r_59, r_60, o_61, g_61_0, g_61_1, g_61_2, g_61_3, g_61_4, g_61_5, g_61_6, g_61_7, g_61_8, g_61_9, g_61_10, g_61_11, g_61_12, g_61_13, g_61_14, g_61_15, g_61_16, g_61_17, g_61_18, g_61_19, g_61_20, g_61_21, g_61_22, g_61_23, r_62, r_63, r_64, r_65, r_66, r_67, r_68, r_69, r_70, r_71, r_72, r_73, r_74, r_75, r_76, r_77, Option.bind_some, k0, k1, k2]
    by_cases c0 : cor n t 0 = j
    · rw [if_pos (q0.mpr c0), if_pos (Or.inl c0)]
    · rw [if_neg (fun h => c0 (q0.mp h))]
      by_cases c1 : cor n t 1 = j
      · rw [if_pos (q1.mpr c1), if_pos (Or.inr (Or.inl c1))]
      · rw [if_neg (fun h => c1 (q1.mp h))]
        by_cases c2 : cor n t 2 = j
        · rw [if_pos (q2.mpr c2), if_pos (Or.inr (Or.inr c2))]
        · rw [if_neg (fun h => c2 (q2.mp h)), if_neg (by omega)])
/-- a state holds together when signs change -/
theorem ok3_neg {x : Int32} (h : ok3 x) : ok3 (-x) := by
  unfold ok3 at *
  rcases h with rfl | rfl | rfl <;> decide
theorem GG_flip {n : Nat} {s : Nat → Int32} {M : Nat → Int64} (g : GG n s M) (p : Nat → Prop) [DecidablePred p] : GG n (flp p s (nT n)) M := by
  obtain ⟨hn, g0, g1, gt⟩ := g
  have o : ∀ {j}, (∀ t, j ≠ 3 + 4 * t) → flp p s (nT n) j = s j := fun h => flp_o (fun t _ => h t)
  have o1 : ∀ t, flp p s (nT n) (3 + 4 * t + 1) = s (3 + 4 * t + 1) := fun t => o (fun u => by omega)
  have o2 : ∀ t, flp p s (nT n) (3 + 4 * t + 2) = s (3 + 4 * t + 2) := fun t => o (fun u => by omega)
  have o3 : ∀ t, flp p s (nT n) (3 + 4 * t + 3) = s (3 + 4 * t + 3) := fun t => o (fun u => by omega)
  have om : many (flp p s (nT n)) 2 (nT n) = many s 2 (nT n) := cntN_cg _ _ _ (fun k _ => by rw [o1])
  refine ⟨hn, by rw [o (fun u => by omega)]; exact g0, by rw [o (fun u => by omega)]; exact g1, fun t ht => ?_⟩
  have so : ∀ {t}, t < nT n → ok3 (s (3 + 4 * t)) → ok3 (flp p s (nT n) (3 + 4 * t)) := fun {t} ht h => by
    rw [flp_i ht]
    split
    · exact ok3_neg h
    · exact h
  rcases gt t ht with g | g | ⟨r, st, g⟩
  · refine Or.inl ⟨by rw [o1]; exact g.1, ?_, by rw [o3]; exact g.2.2.1, g.2.2.2⟩
    by_cases c : t < nT n
    · rw [flp_i c, if_neg (fun h => h.2 g.1)]
      exact g.2.1
    · rw [flp_o (fun u hu => by omega)]
      exact g.2.1
  · exact Or.inr (Or.inl ⟨g.1, by rw [o1]; exact g.2.1, so g.1 g.2.2.1, by rw [o3]; exact g.2.2.2.1, g.2.2.2.2⟩)
  · refine Or.inr (Or.inr ⟨r, st, ?_⟩)
    unfold G2
    simp only [o1, o2, o3, om]
    exact ⟨g.1, g.2.1, so g.1 g.2.2.1, g.2.2.2⟩
