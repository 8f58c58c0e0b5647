/-! two points are exchanged -/
def ex (i j p : Nat) : Nat := if p = i then j else if p = j then i else p
theorem ex_lt {i j p n : Nat} (hi : i < n) (hj : j < n) (hp : p < n) : ex i j p < n := by
  unfold ex
  (repeat' split) <;> assumption
/-- the sign that a triple gets -/
def exv (n : Nat) (s : Nat → Int32) (i j t : Nat) : Int32 := sgn n s (ex i j (cor n t 0)) (ex i j (cor n t 1)) (ex i j (cor n t 2))
def xch (v : Nat → Int32) (s : Nat → Int32) : Nat → Nat → Int32
  | 0 => s
  | k + 1 => if v k = -100 then clr k (xch v s k) else gvn k (v k) (xch v s k)
def xchM (v : Nat → Int32) (M : Nat → Int64) : Nat → Nat → Int64
  | 0 => M
  | k + 1 => if v k = -100 then vp_updL (xchM v M k) k 0 else vp_updL (xchM v M k) k (bitT k)
theorem xch_s (v s : Nat → Int32) (k : Nat) : xch v s (k + 1) = if v k = -100 then clr k (xch v s k) else gvn k (v k) (xch v s k) := rfl
theorem xchM_s (v : Nat → Int32) (M : Nat → Int64) (k : Nat) : xchM v M (k + 1) = if v k = -100 then vp_updL (xchM v M k) k 0 else vp_updL (xchM v M k) k (bitT k) := rfl
theorem c_part {n : Nat} (hn : n38 n) {i j p : Nat} (hi : i < n) (hj : j < n) (hp : p < n) : f_X3_partner (nI p) (nI i) (nI j) = some (nI (ex i j p)) := by
  unfold f_X3_partner ex
  simp only [ne_of hn hp hi, ne_of hn hp hj]
  (repeat' split) <;> rfl
theorem m_part {n : Nat} (hn : n38 n) {i j p : Nat} (hi : i < n) (hj : j < n) (hp : p < n) : f_X4_exchanged (nI p) (nI i) (nI j) = some (nI (ex i j p)) := by
  unfold f_X4_exchanged ex
  simp only [ne_of hn hp hi, ne_of hn hp hj]
  (repeat' split) <;> rfl
theorem LC_x {n : Nat} {m m1 : Mem} (h : LC n m) (f : Fr cX m m1) : LC n m1 := LC_of h (fun a _ hb => f.1 a (by unfold cX; omega))
theorem c_exs {n : Nat} (hn : n38 n) {m : Mem} (hL : LC n m) {s : Nat → Int32} {M : Nat → Int64} (hs : RS 9 m s M) {i j : Nat} (hi : i < n) (hj : j < n) : ∃ m1, l_X3_exchangeSigns_2 0 (nI i) (nI j) FU 0 (HH m) = some (HH m1) ∧ (∀ t, t < nT n → m1.I 22 t = exv n s i j t) ∧ Fr (cC 22) m m1 := by
  have h8 := nT_le hn
  have key : ∃ b, l_X3_exchangeSigns_2 0 (nI i) (nI j) FU (nI 0) (HH m) = some b ∧ ∃ m1, b = HH m1 ∧ (∀ t, t < nT n → m1.I 22 t = exv n s i j t) ∧ Fr (cC 22) m m1 := by
    refine loopR (fun fuel (a : Int32 × Hp) => l_X3_exchangeSigns_2 0 (nI i) (nI j) fuel a.1 a.2) (fun k a => ∃ m1, a = (nI k, HH m1) ∧ (∀ t, t < k → m1.I 22 t = exv n s i j t) ∧ Fr (cC 22) m m1) _ (nT n) ?_ ?_ (nT n) 0 (nI 0, HH m) FU (by omega) (FUx (by omega)) ⟨m, rfl, fun t ht => absurd ht (Nat.not_lt_zero t), Fr_rf _ m⟩
    · rintro k a fuel hk ⟨m1, rfl, hv, hf⟩
      have hL1 : LC n m1 := LC_of hL (fun a _ hb => hf.1 a (by unfold cC; omega))
      have hs1 : RS 9 m1 s M := RS_of hs (fun a ha => hf.1 a (by unfold cS at ha; unfold cC; omega))
      have a0 := cor_lt hn k hk 0 (by omega)
      have a1 := cor_lt hn k hk 1 (by omega)
      have a2 := cor_lt hn k hk 2 (by omega)
      refine Or.inl ⟨(nI (k + 1), HH (m1.sI 22 k (exv n s i j k))), ?_, _, rfl, ?_, Fr_sI hf rfl⟩
      · have k0 : f_X0_corner 1 (nI k) 0 (HH m1) = _ := cl_cor hn hL1 hk (w := 0) (by omega)
        have k1 : f_X0_corner 1 (nI k) 1 (HH m1) = _ := cl_cor hn hL1 hk (w := 1) (by omega)
        have k2 : f_X0_corner 1 (nI k) 2 (HH m1) = _ := cl_cor hn hL1 hk (w := 2) (by omega)
        simp (disch := omega) only [l_X3_exchangeSigns_2, o_0, g_0_0, g_0_1, g_0_2, g_0_3, g_0_4, p_0_4, g_0_5, g_0_6, g_0_7, g_0_8, g_0_9, g_0_10, g_0_11, o_1, g_1_0, p_1_0, g_1_1, p_1_1, g_1_2, p_1_2, g_1_3, g_1_4, g_1_5, g_1_6, g_1_7, g_1_8, g_1_9, r_2, w_2, r_3, w_3, r_4, w_4, r_5, w_5, r_6, w_6, r_7, w_7, r_8, w_8, o_9, g_9_0, p_9_0, g_9_1, p_9_1, g_9_2, p_9_2, g_9_3, g_9_4, g_9_5, g_9_6, g_9_7, g_9_8, g_9_9, r_10, w_10, r_11, w_11, r_12, w_12, r_13, w_13, r_14, w_14, r_15, w_15, r_16, w_16, o_17, g_17_0, g_17_1, p_17_1, g_17_2, g_17_3, g_17_4, p_17_4, r_18, w_18, r_19, w_19, r_20, w_20, r_22, w_22, r_23, w_23, r_24, w_24, r_25, w_25, r_26, w_26, r_27, w_27, r_28, w_28, o_29, g_29_0, p_29_0, g_29_1, p_29_1, g_29_2, p_29_2, g_29_3, g_29_4, g_29_5, g_29_6, g_29_7, g_29_8, g_29_9, r_30, w_30, r_31, w_31, r_32, w_32, r_33, w_33, r_34, w_34, r_35, w_35, r_36, w_36, o_37, g_37_0, p_37_0, g_37_1, p_37_1, g_37_2, p_37_2, g_37_3, g_37_4, g_37_5, g_37_6, g_37_7, g_37_8, g_37_9, r_38, w_38, r_39, w_39, r_40, w_40, r_41, w_41, r_42, w_42, r_43, w_43, r_44, w_44, o_45, g_45_0, p_45_0, g_45_1, p_45_1, g_45_2, p_45_2, g_45_3, g_45_4, g_45_5, g_45_6, g_45_7, g_45_8, g_45_9, r_46, w_46, r_47, w_47, r_48, w_48, r_49, w_49, r_50, w_50, r_51, w_51, r_52, w_52, o_53, g_53_0, p_53_0, g_53_1, p_53_1, g_53_2, p_53_2, g_53_3, g_53_4, g_53_5, g_53_6, g_53_7, g_53_8, g_53_9, r_54, w_54, r_55, w_55, r_56, w_56, r_57, w_57, r_58, w_58, r_59, w_59, r_60, w_60, o_61, g_61_0, g_61_1, g_61_2, g_61_3, p_61_3, g_61_4, g_61_5, p_61_5, g_61_6, p_61_6, g_61_7, g_61_8, g_61_9, p_61_9, g_61_10, g_61_11, p_61_11, g_61_12, p_61_12, g_61_13, g_61_14, g_61_15, g_61_16, g_61_17, g_61_18, g_61_19, g_61_20, p_61_20, g_61_21, p_61_21, g_61_22, g_61_23, p_61_23, r_62, w_62, r_63, w_63, r_64, w_64, r_65, w_65, r_66, w_66, r_67, w_67, r_68, w_68, r_69, w_69, r_70, w_70, r_71, w_71, r_72, w_72, r_73, w_73, r_74, w_74, r_75, w_75, r_76, w_76, r_77, w_77, Option.bind_some, leN, hL1.2.1, if_neg (show ¬ nT n ≤ k by omega), k0, k1, k2, c_part hn hi hj a0, c_part hn hi hj a1, c_part hn hi hj a2, cl_sgn hn hL1 hs1 (ex_lt hi hj a0) (ex_lt hi hj a1) (ex_lt hi hj a2), add1]
        rfl
      · intro t ht
        rw [sI_at]
        by_cases c : t = k
        · rw [if_pos c, c]
        · rw [if_neg c]
          exact hv t (by omega)
    · rintro a fuel ⟨m1, rfl, hv, hf⟩
      have hL1 : LC n m1 := LC_of hL (fun a _ hb => hf.1 a (by unfold cC; omega))
      refine ⟨_, ?_, m1, rfl, hv, hf⟩
      simp (disch := omega) only [l_X3_exchangeSigns_2, o_0, g_0_0, g_0_1, g_0_2, g_0_3, g_0_4, g_0_5, g_0_6, g_0_7, g_0_8, g_0_9, g_0_10, g_0_11, o_1, g_1_0, g_1_1, g_1_2, g_1_3, g_1_4, g_1_5, g_1_6, g_1_7, g_1_8, g_1_9, r_2, r_3, r_4, r_5, r_6, r_7, r_8, o_9, g_9_0, g_9_1, g_9_2, g_9_3, g_9_4, g_9_5, g_9_6, g_9_7, g_9_8, g_9_9, r_10, r_11, r_12, r_13, r_14, r_15, r_16, o_17, g_17_0, g_17_1, g_17_2, g_17_3, g_17_4, r_18, r_19, r_20, r_22, r_23, r_24, r_25, r_26, r_27, r_28, o_29, g_29_0, g_29_1, g_29_2, g_29_3, g_29_4, g_29_5, g_29_6, g_29_7, g_29_8, g_29_9, r_30, r_31, r_32, r_33, r_34, r_35, r_36, o_37, g_37_0, g_37_1, g_37_2, g_37_3, g_37_4, g_37_5, g_37_6, g_37_7, g_37_8, g_37_9, r_38, r_39, r_40, r_41, r_42, r_43, r_44, o_45, g_45_0, g_45_1, g_45_2, g_45_3, g_45_4, g_45_5, g_45_6, g_45_7, g_45_8, g_45_9, r_46, r_47, r_48, r_49, r_50, r_51, r_52, o_53, g_53_0, g_53_1, g_53_2, g_53_3, g_53_4, g_53_5, g_53_6, g_53_7, g_53_8, g_53_9, r_54, r_55, r_56, r_57, r_58, r_59, r_60, o_61, g_61_0, g_61_1, g_61_2, g_61_3, g_61_4, g_61_5, g_61_6, g_61_7, g_61_8, g_61_9, g_61_10, g_61_11, g_61_12, g_61_13, g_61_14, g_61_15, g_61_16, g_61_17, g_61_18, g_61_19, g_61_20, g_61_21, g_61_22, g_61_23, r_62, r_63, r_64, r_65, r_66, r_67, r_68, r_69, r_70, r_71, r_72, r_73, r_74, r_75, r_76, r_77, Option.bind_some, leN, hL1.2.1, if_pos (Nat.le_refl (nT n))]
  obtain ⟨b, e, m1, rfl, hv, hf⟩ := key
  exact ⟨m1, e, hv, hf⟩
theorem c_exw {n : Nat} (hn : n38 n) {m : Mem} (hL : LC n m) {s : Nat → Int32} {M : Nat → Int64} (hs : RS 9 m s M) {v : Nat → Int32} (hv : ∀ t, t < nT n → m.I 22 t = v t) : ∃ m1, l_X3_exchangeSigns_85 0 FU 0 (HH m) = some (HH m1) ∧ RS 9 m1 (xch v s (nT n)) (xchM v M (nT n)) ∧ Fr (cS 9) m m1 := by
  have h8 := nT_le hn
  have key : ∃ b, l_X3_exchangeSigns_85 0 FU (nI 0) (HH m) = some b ∧ ∃ m1, b = HH m1 ∧ RS 9 m1 (xch v s (nT n)) (xchM v M (nT n)) ∧ Fr (cS 9) m m1 := by
    refine loopR (fun fuel (a : Int32 × Hp) => l_X3_exchangeSigns_85 0 fuel a.1 a.2) (fun k a => ∃ m1, a = (nI k, HH m1) ∧ RS 9 m1 (xch v s k) (xchM v M k) ∧ Fr (cS 9) m m1) _ (nT n) ?_ ?_ (nT n) 0 (nI 0, HH m) FU (by omega) (FUx (by omega)) ⟨m, rfl, hs, Fr_rf _ m⟩
    · rintro k a fuel hk ⟨m1, rfl, hr, hf⟩
      have hL1 := LC_9 hL hf
      have e22 : m1.I 22 k = v k := by
        rw [(hf.1 22 (by unfold cS; omega)).1]
        exact hv k hk
      by_cases c : v k = -100
      · obtain ⟨m2, e2, r2, f2⟩ := c9_unknown hr (t := k) (by omega)
        refine Or.inl ⟨(nI (k + 1), HH m2), ?_, m2, rfl, ?_, Fr_tr hf f2⟩
        · simp (disch := omega) only [l_X3_exchangeSigns_85, o_0, g_0_0, g_0_1, g_0_2, g_0_3, g_0_4, g_0_5, g_0_6, g_0_7, g_0_8, g_0_9, g_0_10, g_0_11, o_1, g_1_0, g_1_1, g_1_2, g_1_3, g_1_4, g_1_5, g_1_6, g_1_7, g_1_8, g_1_9, r_2, r_3, r_4, r_5, r_6, r_7, r_8, o_9, g_9_0, g_9_1, g_9_2, g_9_3, g_9_4, g_9_5, g_9_6, g_9_7, g_9_8, g_9_9, r_10, r_11, r_12, r_13, r_14, r_15, r_16, o_17, g_17_0, g_17_1, g_17_2, g_17_3, g_17_4, r_18, r_19, r_20, r_22, r_23, r_24, r_25, r_26, r_27, r_28, o_29, g_29_0, g_29_1, g_29_2, g_29_3, g_29_4, g_29_5, g_29_6, g_29_7, g_29_8, g_29_9, r_30, r_31, r_32, r_33, r_34, r_35, r_36, o_37, g_37_0, g_37_1, g_37_2, g_37_3, g_37_4, g_37_5, g_37_6, g_37_7, g_37_8, g_37_9, r_38, r_39, r_40, r_41, r_42, r_43, r_44, o_45, g_45_0, g_45_1, g_45_2, g_45_3, g_45_4, g_45_5, g_45_6, g_45_7, g_45_8, g_45_9, r_46, r_47, r_48, r_49, r_50, r_51, r_52, o_53, g_53_0, g_53_1, g_53_2, g_53_3, g_53_4, g_53_5, g_53_6, g_53_7, g_53_8, g_53_9, r_54, r_55, r_56, r_57, r_58, r_59, r_60, o_61, g_61_0, g_61_1, g_61_2, g_61_3, g_61_4, g_61_5, g_61_6, g_61_7, g_61_8, g_61_9, g_61_10, g_61_11, g_61_12, g_61_13, g_61_14, g_61_15, g_61_16, g_61_17, g_61_18, g_61_19, g_61_20, g_61_21, g_61_22, g_61_23, r_62, r_63, r_64, r_65, r_66, r_67, r_68, r_69, r_70, r_71, r_72, r_73, r_74, r_75, r_76, r_77, Option.bind_some, leN, hL1.2.1, if_neg (show ¬ nT n ≤ k by omega), e22, if_pos c, e2, add1]
        · rw [xch_s, xchM_s, if_pos c, if_pos c]
          exact r2
      · obtain ⟨m2, e2, r2, f2⟩ := c9_given hr (t := k) (by omega) (v k)
        refine Or.inl ⟨(nI (k + 1), HH m2), ?_, m2, rfl, ?_, Fr_tr hf f2⟩
        · simp (disch := omega) only [l_X3_exchangeSigns_85, o_0, g_0_0, g_0_1, g_0_2, g_0_3, g_0_4, g_0_5, g_0_6, g_0_7, g_0_8, g_0_9, g_0_10, g_0_11, o_1, g_1_0, g_1_1, g_1_2, g_1_3, g_1_4, g_1_5, g_1_6, g_1_7, g_1_8, g_1_9, r_2, r_3, r_4, r_5, r_6, r_7, r_8, o_9, g_9_0, g_9_1, g_9_2, g_9_3, g_9_4, g_9_5, g_9_6, g_9_7, g_9_8, g_9_9, r_10, r_11, r_12, r_13, r_14, r_15, r_16, o_17, g_17_0, g_17_1, g_17_2, g_17_3, g_17_4, r_18, r_19, r_20, r_22, r_23, r_24, r_25, r_26, r_27, r_28, o_29, g_29_0, g_29_1, g_29_2, g_29_3, g_29_4, g_29_5, g_29_6, g_29_7, g_29_8, g_29_9, r_30, r_31, r_32, r_33, r_34, r_35, r_36, o_37, g_37_0, g_37_1, g_37_2, g_37_3, g_37_4, g_37_5, g_37_6, g_37_7, g_37_8, g_37_9, r_38, r_39, r_40, r_41, r_42, r_43, r_44, o_45, g_45_0, g_45_1, g_45_2, g_45_3, g_45_4, g_45_5, g_45_6, g_45_7, g_45_8, g_45_9, r_46, r_47, r_48, r_49, r_50, r_51, r_52, o_53, g_53_0, g_53_1, g_53_2, g_53_3, g_53_4, g_53_5, g_53_6, g_53_7, g_53_8, g_53_9, r_54, r_55, r_56, r_57, r_58, r_59, r_60, o_61, g_61_0, g_61_1, g_61_2, g_61_3, g_61_4, g_61_5, g_61_6, g_61_7, g_61_8, g_61_9, g_61_10, g_61_11, g_61_12, g_61_13, g_61_14, g_61_15, g_61_16, g_61_17, g_61_18, g_61_19, g_61_20, g_61_21, g_61_22, g_61_23, r_62, r_63, r_64, r_65, r_66, r_67, r_68, r_69, r_70, r_71, r_72, r_73, r_74, r_75, r_76, r_77, Option.bind_some, leN, hL1.2.1, if_neg (show ¬ nT n ≤ k by omega), e22, if_neg c, e2, add1]
        · rw [xch_s, xchM_s, if_neg c, if_neg c]
          exact r2
    · rintro a fuel ⟨m1, rfl, hr, hf⟩
      have hL1 := LC_9 hL hf
      refine ⟨_, ?_, m1, rfl, hr, hf⟩
      simp (disch := omega) only [l_X3_exchangeSigns_85, o_0, g_0_0, g_0_1, g_0_2, g_0_3, g_0_4, g_0_5, g_0_6, g_0_7, g_0_8, g_0_9, g_0_10, g_0_11, o_1, g_1_0, g_1_1, g_1_2, g_1_3, g_1_4, g_1_5, g_1_6, g_1_7, g_1_8, g_1_9, r_2, r_3, r_4, r_5, r_6, r_7, r_8, o_9, g_9_0, g_9_1, g_9_2, g_9_3, g_9_4, g_9_5, g_9_6, g_9_7, g_9_8, g_9_9, r_10, r_11, r_12, r_13, r_14, r_15, r_16, o_17, g_17_0, g_17_1, g_17_2, g_17_3, g_17_4, r_18, r_19, r_20, r_22, r_23, r_24, r_25, r_26, r_27, r_28, o_29, g_29_0, g_29_1, g_29_2, g_29_3, g_29_4, g_29_5, g_29_6, g_29_7, g_29_8, g_29_9, r_30, r_31, r_32, r_33, r_34, r_35, r_36, o_37, g_37_0, g_37_1, g_37_2, g_37_3, g_37_4, g_37_5, g_37_6, g_37_7, g_37_8, g_37_9, r_38, r_39, r_40, r_41, r_42, r_43, r_44, o_45, g_45_0, g_45_1, g_45_2, g_45_3, g_45_4, g_45_5, g_45_6, g_45_7, g_45_8, g_45_9, r_46, r_47, r_48, r_49, r_50, r_51, r_52, o_53, g_53_0, g_53_1, g_53_2, g_53_3, g_53_4, g_53_5, g_53_6, g_53_7, g_53_8, g_53_9, r_54, r_55, r_56, r_57, r_58, r_59, r_60, o_61, g_61_0, g_61_1, g_61_2, g_61_3, g_61_4, g_61_5, g_61_6, g_61_7, g_61_8, g_61_9, g_61_10, g_61_11, g_61_12, g_61_13, g_61_14, g_61_15, g_61_16, g_61_17, g_61_18, g_61_19, g_61_20, g_61_21, g_61_22, g_61_23, r_62, r_63, r_64, r_65, r_66, r_67, r_68, r_69, r_70, r_71, r_72, r_73, r_74, r_75, r_76, r_77, Option.bind_some, leN, hL1.2.1, if_pos (Nat.le_refl (nT n))]
  obtain ⟨b, e, m1, rfl, hr, hf⟩ := key
  exact ⟨m1, e, hr, hf⟩
theorem RS_x {m : Mem} {s : Nat → Int32} {M : Nat → Int64} (h : RS 9 m s M) {p : Nat} (hp : p < 8) (v : Int32) : RS 9 (m.sI 15 p v) (upd s (227 + 2 * p) v) M ∧ Fr (cS 9) m (m.sI 15 p v) := by
  refine ⟨⟨?_, ?_, ?_, fun u hu => ?_, fun u hu => ?_⟩, Fr_sI (Fr_rf _ m) ⟨by omega, by omega⟩⟩
  · rw [upd_g, if_neg (by omega)]
    exact h.1
  · rw [upd_g, if_neg (by omega)]
    exact h.2.1
  · rw [upd_g, if_neg (by omega)]
    exact h.2.2.1
  · rw [upd_g, upd_g, upd_g, upd_g, if_neg (by omega), if_neg (by omega), if_neg (by omega), if_neg (by omega)]
    exact h.2.2.2.1 u hu
  · have q := h.2.2.2.2 u hu
    show upd (m.I 15) p v u = _ ∧ m.I 16 u = _
    rw [upd_g, upd_g, upd_g, if_neg (show ¬ 227 + 2 * u + 1 = 227 + 2 * p by omega)]
    refine ⟨?_, q.2⟩
    by_cases c : u = p
    · rw [if_pos c, if_pos (by omega)]
    · rw [if_neg c, if_neg (by omega)]
      exact q.1
theorem RS_y {m : Mem} {s : Nat → Int32} {M : Nat → Int64} (h : RS 9 m s M) {p : Nat} (hp : p < 8) (v : Int32) : RS 9 (m.sI 16 p v) (upd s (227 + 2 * p + 1) v) M ∧ Fr (cS 9) m (m.sI 16 p v) := by
  refine ⟨⟨?_, ?_, ?_, fun u hu => ?_, fun u hu => ?_⟩, Fr_sI (Fr_rf _ m) ⟨by omega, by omega⟩⟩
  · rw [upd_g, if_neg (by omega)]
    exact h.1
  · rw [upd_g, if_neg (by omega)]
    exact h.2.1
  · rw [upd_g, if_neg (by omega)]
    exact h.2.2.1
  · rw [upd_g, upd_g, upd_g, upd_g, if_neg (by omega), if_neg (by omega), if_neg (by omega), if_neg (by omega)]
    exact h.2.2.2.1 u hu
  · have q := h.2.2.2.2 u hu
    show m.I 15 u = _ ∧ upd (m.I 16) p v u = _
    rw [upd_g, upd_g, upd_g, if_neg (show ¬ 227 + 2 * u = 227 + 2 * p + 1 by omega)]
    refine ⟨q.1, ?_⟩
    by_cases c : u = p
    · rw [if_pos c, if_pos (by omega)]
    · rw [if_neg c, if_neg (by omega)]
      exact q.2
/-- the row with coordinates exchanged -/
def xyR (i j : Nat) (s : Nat → Int32) : Nat → Int32 := upd (upd (upd (upd s (227 + 2 * i) (s (227 + 2 * j))) (227 + 2 * j) (s (227 + 2 * i))) (227 + 2 * i + 1) (s (227 + 2 * j + 1))) (227 + 2 * j + 1) (s (227 + 2 * i + 1))
theorem c_xy {m : Mem} {s : Nat → Int32} {M : Nat → Int64} (hs : RS 9 m s M) {i j : Nat} (hi : i < 8) (hj : j < 8) (hne : i ≠ j) : ∃ m1, f_X3_exchangeCoordinates 0 (nI i) (nI j) (HH m) = some (HH m1) ∧ RS 9 m1 (xyR i j s) M ∧ Fr (cS 9) m m1 := by
  have xi : m.I 15 i = s (227 + 2 * i) := (hs.2.2.2.2 i hi).1
  have yi : m.I 16 i = s (227 + 2 * i + 1) := (hs.2.2.2.2 i hi).2
  have xj : m.I 15 j = s (227 + 2 * j) := (hs.2.2.2.2 j hj).1
  have yj : m.I 16 j = s (227 + 2 * j + 1) := (hs.2.2.2.2 j hj).2
  obtain ⟨r1, f1⟩ := RS_x hs hi (s (227 + 2 * j))
  obtain ⟨r2, f2⟩ := RS_y r1 hi (s (227 + 2 * j + 1))
  obtain ⟨r3, f3⟩ := RS_x r2 hj (s (227 + 2 * i))
  obtain ⟨r4, f4⟩ := RS_y r3 hj (s (227 + 2 * i + 1))
  refine ⟨_, ?_, RS_cg r4 (fun k hk => ?_) (fun _ _ => rfl), Fr_tr f1 (Fr_tr f2 (Fr_tr f3 f4))⟩
  · unfold f_X3_exchangeCoordinates
    simp (disch := omega) only [o_0, g_0_0, g_0_1, g_0_2, g_0_3, g_0_4, p_0_4, g_0_5, g_0_6, g_0_7, g_0_8, g_0_9, g_0_10, g_0_11, o_1, g_1_0, p_1_0, g_1_1, p_1_1, g_1_2, p_1_2, g_1_3, g_1_4, g_1_5, g_1_6, g_1_7, g_1_8, g_1_9, r_2, w_2, r_3, w_3, r_4, w_4, r_5, w_5, r_6, w_6, r_7, w_7, r_8, w_8, o_9, g_9_0, p_9_0, g_9_1, p_9_1, g_9_2, p_9_2, g_9_3, g_9_4, g_9_5, g_9_6, g_9_7, g_9_8, g_9_9, r_10, w_10, r_11, w_11, r_12, w_12, r_13, w_13, r_14, w_14, r_15, w_15, r_16, w_16, o_17, g_17_0, g_17_1, p_17_1, g_17_2, g_17_3, g_17_4, p_17_4, r_18, w_18, r_19, w_19, r_20, w_20, r_22, w_22, r_23, w_23, r_24, w_24, r_25, w_25, r_26, w_26, r_27, w_27, r_28, w_28, o_29, g_29_0, p_29_0, g_29_1, p_29_1, g_29_2, p_29_2, g_29_3, g_29_4, g_29_5, g_29_6, g_29_7, g_29_8, g_29_9, r_30, w_30, r_31, w_31, r_32, w_32, r_33, w_33, r_34, w_34, r_35, w_35, r_36, w_36, o_37, g_37_0, p_37_0, g_37_1, p_37_1, g_37_2, p_37_2, g_37_3, g_37_4, g_37_5, g_37_6, g_37_7, g_37_8, g_37_9, r_38, w_38, r_39, w_39, r_40, w_40, r_41, w_41, r_42, w_42, r_43, w_43, r_44, w_44, o_45, g_45_0, p_45_0, g_45_1, p_45_1, g_45_2, p_45_2, g_45_3, g_45_4, g_45_5, g_45_6, g_45_7, g_45_8, g_45_9, r_46, w_46, r_47, w_47, r_48, w_48, r_49, w_49, r_50, w_50, r_51, w_51, r_52, w_52, o_53, g_53_0, p_53_0, g_53_1, p_53_1, g_53_2, p_53_2, g_53_3, g_53_4, g_53_5, g_53_6, g_53_7, g_53_8, g_53_9, r_54, w_54, r_55, w_55, r_56, w_56, r_57, w_57, r_58, w_58, r_59, w_59, r_60, w_60, o_61, g_61_0, g_61_1, g_61_2, g_61_3, p_61_3, g_61_4, g_61_5, p_61_5, g_61_6, p_61_6, g_61_7, g_61_8, g_61_9, p_61_9, g_61_10, g_61_11, p_61_11, g_61_12, p_61_12, g_61_13, g_61_14, g_61_15, g_61_16, g_61_17, g_61_18, g_61_19, g_61_20, p_61_20, g_61_21, p_61_21, g_61_22, g_61_23, p_61_23, r_62, w_62, r_63, w_63, r_64, w_64, r_65, w_65, r_66, w_66, r_67, w_67, r_68, w_68, r_69, w_69, r_70, w_70, r_71, w_71, r_72, w_72, r_73, w_73, r_74, w_74, r_75, w_75, r_76, w_76, r_77, w_77, Option.bind_some]
    rw [xi, yi, xj]
    rw [show (m.sI 15 i (s (227 + 2 * j))).I 16 j = m.I 16 j from sI_of _ _ _ _ (by omega), yj]
  · unfold xyR
    simp only [upd_g]
    (repeat' split) <;> first | rfl | omega
/-! the reference -/
theorem m_exs {n : Nat} (hn : n38 n) {m : Mem} (hL : LM n m) {i j : Nat} (hi : i < n) (hj : j < n) : ∃ m1, l_X4_exchange_45 61 (nI i) (nI j) FU 0 (HH m) = some (HH m1) ∧ (∀ t, t < nT n → m1.I 71 t = exv n (m.I 62) i j t) ∧ Fr (cC 71) m m1 := by
  have h8 := nT_le hn
  have key : ∃ b, l_X4_exchange_45 61 (nI i) (nI j) FU (nI 0) (HH m) = some b ∧ ∃ m1, b = HH m1 ∧ (∀ t, t < nT n → m1.I 71 t = exv n (m.I 62) i j t) ∧ Fr (cC 71) m m1 := by
    refine loopR (fun fuel (a : Int32 × Hp) => l_X4_exchange_45 61 (nI i) (nI j) fuel a.1 a.2) (fun k a => ∃ m1, a = (nI k, HH m1) ∧ (∀ t, t < k → m1.I 71 t = exv n (m.I 62) i j t) ∧ Fr (cC 71) m m1) _ (nT n) ?_ ?_ (nT n) 0 (nI 0, HH m) FU (by omega) (FUx (by omega)) ⟨m, rfl, fun t ht => absurd ht (Nat.not_lt_zero t), Fr_rf _ m⟩
    · rintro k a fuel hk ⟨m1, rfl, hv, hf⟩
      have hL1 : LM n m1 := LM_f hL hf (by unfold cC; omega) (by unfold cC; omega) (by unfold cC; omega) (by unfold cC; omega)
      have e62 : m1.I 62 = m.I 62 := (hf.1 62 (by unfold cC; omega)).1
      have a0 := cor_lt hn k hk 0 (by omega)
      have a1 := cor_lt hn k hk 1 (by omega)
      have a2 := cor_lt hn k hk 2 (by omega)
      have k0 := hL1.2.2.1 k 0 hk (by omega)
      have k1 := hL1.2.2.1 k 1 hk (by omega)
      have k2 := hL1.2.2.1 k 2 hk (by omega)
      rw [Nat.add_zero] at k0
      have es := m_sgn hn hL1 (ex_lt hi hj a0) (ex_lt hi hj a1) (ex_lt hi hj a2)
      rw [e62] at es
      refine Or.inl ⟨(nI (k + 1), HH (m1.sI 71 k (exv n (m.I 62) i j k))), ?_, _, rfl, ?_, Fr_sI hf rfl⟩
      · simp (disch := omega) only [l_X4_exchange_45, g_61_9, hL1.1, leN, if_neg (show ¬ nT n ≤ k by omega), show (3 : Int32) = nI 3 from rfl, pk_mul, add_1, add_2, o_0, g_0_0, g_0_1, g_0_2, g_0_3, g_0_4, p_0_4, g_0_5, g_0_6, g_0_7, g_0_8, g_0_9, g_0_10, g_0_11, o_1, g_1_0, p_1_0, g_1_1, p_1_1, g_1_2, p_1_2, g_1_3, g_1_4, g_1_5, g_1_6, g_1_7, g_1_8, g_1_9, r_2, w_2, r_3, w_3, r_4, w_4, r_5, w_5, r_6, w_6, r_7, w_7, r_8, w_8, o_9, g_9_0, p_9_0, g_9_1, p_9_1, g_9_2, p_9_2, g_9_3, g_9_4, g_9_5, g_9_6, g_9_7, g_9_8, g_9_9, r_10, w_10, r_11, w_11, r_12, w_12, r_13, w_13, r_14, w_14, r_15, w_15, r_16, w_16, o_17, g_17_0, g_17_1, p_17_1, g_17_2, g_17_3, g_17_4, p_17_4, r_18, w_18, r_19, w_19, r_20, w_20, r_22, w_22, r_23, w_23, r_24, w_24, r_25, w_25, r_26, w_26, r_27, w_27, r_28, w_28, o_29, g_29_0, p_29_0, g_29_1, p_29_1, g_29_2, p_29_2, g_29_3, g_29_4, g_29_5, g_29_6, g_29_7, g_29_8, g_29_9, r_30, w_30, r_31, w_31, r_32, w_32, r_33, w_33, r_34, w_34, r_35, w_35, r_36, w_36, o_37, g_37_0, p_37_0, g_37_1, p_37_1, g_37_2, p_37_2, g_37_3, g_37_4, g_37_5, g_37_6, g_37_7, g_37_8, g_37_9, r_38, w_38, r_39, w_39, r_40, w_40, r_41, w_41, r_42, w_42, r_43, w_43, r_44, w_44, o_45, g_45_0, p_45_0, g_45_1, p_45_1, g_45_2, p_45_2, g_45_3, g_45_4, g_45_5, g_45_6, g_45_7, g_45_8, g_45_9, r_46, w_46, r_47, w_47, r_48, w_48, r_49, w_49, r_50, w_50, r_51, w_51, r_52, w_52, o_53, g_53_0, p_53_0, g_53_1, p_53_1, g_53_2, p_53_2, g_53_3, g_53_4, g_53_5, g_53_6, g_53_7, g_53_8, g_53_9, r_54, w_54, r_55, w_55, r_56, w_56, r_57, w_57, r_58, w_58, r_59, w_59, r_60, w_60, o_61, g_61_0, g_61_1, g_61_2, g_61_3, p_61_3, g_61_4, g_61_5, p_61_5, g_61_6, p_61_6, g_61_7, g_61_8, g_61_9, p_61_9, g_61_10, g_61_11, p_61_11, g_61_12, p_61_12, g_61_13, g_61_14, g_61_15, g_61_16, g_61_17, g_61_18, g_61_19, g_61_20, p_61_20, g_61_21, p_61_21, g_61_22, g_61_23, p_61_23, r_62, w_62, r_63, w_63, r_64, w_64, r_65, w_65, r_66, w_66, r_67, w_67, r_68, w_68, r_69, w_69, r_70, w_70, r_71, w_71, r_72, w_72, r_73, w_73, r_74, w_74, r_75, w_75, r_76, w_76, r_77, w_77, Option.bind_some, k0, k1, k2, m_part hn hi hj a0, m_part hn hi hj a1, m_part hn hi hj a2, es]
        rfl
      · intro t ht
        rw [sI_at]
        by_cases c : t = k
        · rw [if_pos c, c]
        · rw [if_neg c]
          exact hv t (by omega)
    · rintro a fuel ⟨m1, rfl, hv, hf⟩
      have hL1 : LM n m1 := LM_f hL hf (by unfold cC; omega) (by unfold cC; omega) (by unfold cC; omega) (by unfold cC; omega)
      refine ⟨_, ?_, m1, rfl, hv, hf⟩
      simp (disch := omega) only [l_X4_exchange_45, g_61_9, hL1.1, leN, if_pos (Nat.le_refl (nT n)), Option.bind_some]
  obtain ⟨b, e, m1, rfl, hv, hf⟩ := key
  exact ⟨m1, e, hv, hf⟩
theorem m_exw {n : Nat} (hn : n38 n) {m : Mem} (hL : LM n m) {v : Nat → Int32} (hv : ∀ t, t < nT n → m.I 71 t = v t) : l_X4_exchange_120 61 FU 0 (HH m) = some (HH (m.rI 62 (xch v (m.I 62) (nT n)))) := by
  have h8 := nT_le hn
  have key : ∃ b, l_X4_exchange_120 61 FU (nI 0) (HH m) = some b ∧ b = HH (m.rI 62 (xch v (m.I 62) (nT n))) := by
    refine loopR (fun fuel (a : Int32 × Hp) => l_X4_exchange_120 61 fuel a.1 a.2) (fun k a => a = (nI k, HH (m.rI 62 (xch v (m.I 62) k)))) _ (nT n) ?_ ?_ (nT n) 0 (nI 0, HH m) FU (by omega) (FUx (by omega)) (by
      show _ = (nI 0, HH (m.rI 62 (m.I 62)))
      rw [rI_id])
    · rintro k a fuel hk rfl
      refine Or.inl ⟨(nI (k + 1), HH (m.rI 62 (xch v (m.I 62) (k + 1)))), ?_, rfl⟩
      have e9 : ∀ f, (m.rI 62 f).I 61 9 = nI (nT n) := fun f => hL.1
      have e71 : ∀ f, (m.rI 62 f).I 71 k = v k := fun f => hv k hk
      have e15 : ∀ m1 : Mem, fR 4 15 (HH m1) 61 = some 71 := fun m1 => g_61_15 m1
      simp (disch := omega) only [l_X4_exchange_120, g_61_9, e9, leN, if_neg (show ¬ nT n ≤ k by omega), Option.bind_some, m_clears, rI_I, rI_rI, e15, r_71, e71, put_0, sI_r]
      by_cases c : v k = -100
      · simp (disch := omega) only [if_pos c, Option.bind_some, put_1, sI_r, rI_I, rI_rI, add_1]
        rw [xch_s, if_pos c, c]
        have u1 : upd (clr k (xch v (m.I 62) k)) (3 + 4 * k) (-100) = clr k (xch v (m.I 62) k) := upd_id (by rw [clr_g, if_pos (by omega)])
        rw [u1, upd_id (by rw [clr_g, if_neg (by omega), if_pos rfl])]
      · simp (disch := omega) only [if_neg c, Option.bind_some, put_1, sI_r, rI_I, rI_rI, add_1]
        rw [xch_s, if_neg c]
        rfl
    · rintro a fuel rfl
      refine ⟨_, ?_, rfl⟩
      have e9 : (m.rI 62 (xch v (m.I 62) (nT n))).I 61 9 = nI (nT n) := hL.1
      simp (disch := omega) only [l_X4_exchange_120, g_61_9, e9, leN, if_pos (Nat.le_refl (nT n)), Option.bind_some]
  obtain ⟨b, e, rfl⟩ := key
  exact e
theorem m_xy (m : Mem) {i j : Nat} (hi : i < 8) (hj : j < 8) (hne : i ≠ j) : l_X4_exchange_182 61 (nI i) (nI j) FU 0 (HH m) = some (HH (m.rI 62 (xyR i j (m.I 62)))) := by
  have one : ∀ (f : Nat → Int32) fuel w, w < 2 → l_X4_exchange_182 61 (nI i) (nI j) (fuel + 1) (nI w) (HH (m.rI 62 f)) = l_X4_exchange_182 61 (nI i) (nI j) fuel (nI (w + 1)) (HH (m.rI 62 (upd (upd f (227 + 2 * i + w) (f (227 + 2 * j + w))) (227 + 2 * j + w) (f (227 + 2 * i + w))))) := by
    intro f fuel w hw
    simp (disch := omega) only [l_X4_exchange_182, show (2 : Int32) = nI 2 from rfl, show (227 : Int32) = nI 227 from rfl, leN, if_neg (show ¬ 2 ≤ w by omega), pk_mul, nI_add, o_0, g_0_0, g_0_1, g_0_2, g_0_3, g_0_4, p_0_4, g_0_5, g_0_6, g_0_7, g_0_8, g_0_9, g_0_10, g_0_11, o_1, g_1_0, p_1_0, g_1_1, p_1_1, g_1_2, p_1_2, g_1_3, g_1_4, g_1_5, g_1_6, g_1_7, g_1_8, g_1_9, r_2, w_2, r_3, w_3, r_4, w_4, r_5, w_5, r_6, w_6, r_7, w_7, r_8, w_8, o_9, g_9_0, p_9_0, g_9_1, p_9_1, g_9_2, p_9_2, g_9_3, g_9_4, g_9_5, g_9_6, g_9_7, g_9_8, g_9_9, r_10, w_10, r_11, w_11, r_12, w_12, r_13, w_13, r_14, w_14, r_15, w_15, r_16, w_16, o_17, g_17_0, g_17_1, p_17_1, g_17_2, g_17_3, g_17_4, p_17_4, r_18, w_18, r_19, w_19, r_20, w_20, r_22, w_22, r_23, w_23, r_24, w_24, r_25, w_25, r_26, w_26, r_27, w_27, r_28, w_28, o_29, g_29_0, p_29_0, g_29_1, p_29_1, g_29_2, p_29_2, g_29_3, g_29_4, g_29_5, g_29_6, g_29_7, g_29_8, g_29_9, r_30, w_30, r_31, w_31, r_32, w_32, r_33, w_33, r_34, w_34, r_35, w_35, r_36, w_36, o_37, g_37_0, p_37_0, g_37_1, p_37_1, g_37_2, p_37_2, g_37_3, g_37_4, g_37_5, g_37_6, g_37_7, g_37_8, g_37_9, r_38, w_38, r_39, w_39, r_40, w_40, r_41, w_41, r_42, w_42, r_43, w_43, r_44, w_44, o_45, g_45_0, p_45_0, g_45_1, p_45_1, g_45_2, p_45_2, g_45_3, g_45_4, g_45_5, g_45_6, g_45_7, g_45_8, g_45_9, r_46, w_46, r_47, w_47, r_48, w_48, r_49, w_49, r_50, w_50, r_51, w_51, r_52, w_52, o_53, g_53_0, p_53_0, g_53_1, p_53_1, g_53_2, p_53_2, g_53_3, g_53_4, g_53_5, g_53_6, g_53_7, g_53_8, g_53_9, r_54, w_54, r_55, w_55, r_56, w_56, r_57, w_57, r_58, w_58, r_59, w_59, r_60, w_60, o_61, g_61_0, g_61_1, g_61_2, g_61_3, p_61_3, g_61_4, g_61_5, p_61_5, g_61_6, p_61_6, g_61_7, g_61_8, g_61_9, p_61_9, g_61_10, g_61_11, p_61_11, g_61_12, p_61_12, g_61_13, g_61_14, g_61_15, g_61_16, g_61_17, g_61_18, g_61_19, g_61_20, p_61_20, g_61_21, p_61_21, g_61_22, g_61_23, p_61_23, r_62, w_62, r_63, w_63, r_64, w_64, r_65, w_65, r_66, w_66, r_67, w_67, r_68, w_68, r_69, w_69, r_70, w_70, r_71, w_71, r_72, w_72, r_73, w_73, r_74, w_74, r_75, w_75, r_76, w_76, r_77, w_77, Option.bind_some, sI_r, rI_I, rI_rI, add_1]
  have e0 : HH m = HH (m.rI 62 (m.I 62)) := by rw [rI_id]
  rw [e0, show FU = ((3999997 + 1) + 1) + 1 from rfl, show l_X4_exchange_182 61 (nI i) (nI j) (((3999997 + 1) + 1) + 1) 0 (HH (m.rI 62 (m.I 62))) = _ from one (m.I 62) _ 0 (by omega), one _ _ 1 (by omega), l_X4_exchange_182, if_pos (show (2 : Int32) ≤ nI (1 + 1) by decide)]
  have : upd (upd (upd (upd (m.I 62) (227 + 2 * i + 0) (m.I 62 (227 + 2 * j + 0))) (227 + 2 * j + 0) (m.I 62 (227 + 2 * i + 0))) (227 + 2 * i + 1) (upd (upd (m.I 62) (227 + 2 * i + 0) (m.I 62 (227 + 2 * j + 0))) (227 + 2 * j + 0) (m.I 62 (227 + 2 * i + 0)) (227 + 2 * j + 1))) (227 + 2 * j + 1) (upd (upd (m.I 62) (227 + 2 * i + 0) (m.I 62 (227 + 2 * j + 0))) (227 + 2 * j + 0) (m.I 62 (227 + 2 * i + 0)) (227 + 2 * i + 1)) = xyR i j (m.I 62) := by
    unfold xyR
    rw [upd_g _ _ (227 + 2 * j + 1), upd_g _ _ (227 + 2 * j + 1), upd_g _ _ (227 + 2 * i + 1), upd_g _ _ (227 + 2 * i + 1)]
    rw [if_neg (show ¬ 227 + 2 * j + 1 = 227 + 2 * j + 0 by omega), if_neg (show ¬ 227 + 2 * j + 1 = 227 + 2 * i + 0 by omega), if_neg (show ¬ 227 + 2 * i + 1 = 227 + 2 * j + 0 by omega), if_neg (show ¬ 227 + 2 * i + 1 = 227 + 2 * i + 0 by omega)]
    rfl
  rw [this]
/-! a state holds together -/
theorem GG_xch {n : Nat} {s : Nat → Int32} {M : Nat → Int64} (g : GG n s M) (hn2 : noD2 s) {v : Nat → Int32} (hv : ∀ t, t < nT n → v t = -100 ∨ ok3 (v t)) : ∀ k, k ≤ nT n → GG n (xch v s k) (xchM v M k) ∧ noD2 (xch v s k) := by
  intro k
  induction k with
  | zero => intro _; exact ⟨g, hn2⟩
  | succ k ih =>
    intro hk
    obtain ⟨g1, h1⟩ := ih (by omega)
    rw [xch_s, xchM_s]
    by_cases c : v k = -100
    · rw [if_pos c, if_pos c]
      exact GG_clr g1 h1
    · rw [if_neg c, if_neg c]
      obtain ⟨g2, h2⟩ := GG_gvn g1 (t := k) (by omega) ((hv k (by omega)).resolve_left c) (Or.inr h1)
      exact ⟨g2, h2 h1⟩
/-- a state holds together when coordinates are others -/
theorem GG_hi {n : Nat} {s s' : Nat → Int32} {M : Nat → Int64} (g : GG n s M) (h : ∀ k, k < 227 → s' k = s k) : GG n s' M := by
  obtain ⟨hn, g0, g1, gt⟩ := g
  have hT := nT_le hn
  have om : many s' 2 (nT n) = many s 2 (nT n) := cntN_cg _ _ _ (fun u hu => by rw [h _ (by omega)])
  refine ⟨hn, by rw [h 0 (by omega)]; exact g0, by rw [h 1 (by omega)]; exact g1, fun t ht => ?_⟩
  rcases gt t ht with k | k | ⟨r, st, k⟩
  · exact Or.inl ⟨by rw [h _ (by omega)]; exact k.1, by rw [h _ (by omega)]; exact k.2.1, by rw [h _ (by omega)]; exact k.2.2.1, k.2.2.2⟩
  · exact Or.inr (Or.inl ⟨k.1, by rw [h _ (by omega)]; exact k.2.1, by rw [h _ (by omega)]; exact k.2.2.1, by rw [h _ (by omega)]; exact k.2.2.2.1, k.2.2.2.2⟩)
  · obtain ⟨y1, y2, y3, y4, y5, y6, y7, y8, y9, y10⟩ := k
    refine Or.inr (Or.inr ⟨r, st, y1, by rw [h _ (by omega)]; exact y2, by rw [h _ (by omega)]; exact y3, y4, by rw [h _ (by omega)]; exact y5, by rw [h _ (by omega)]; exact y6, y7, by omega, y9, fun w hw => ?_⟩)
    have hl := fac_lt hn y4 hw
    rw [h _ (show 3 + 4 * fac n r w + 1 < 227 by omega), h _ (show 3 + 4 * fac n r w + 3 < 227 by omega)]
    exact y10 w hw
