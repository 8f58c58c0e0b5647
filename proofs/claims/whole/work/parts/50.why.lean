/-! the reasons, anew -/
def cY (a : Nat) : Prop := a = 69 ∨ a = 70 ∨ a = 72
theorem LM_Y {n : Nat} {m m1 : Mem} (h : LM n m) (f : Fr cY m m1) : LM n m1 := LM_f h f (by unfold cY; omega) (by unfold cY; omega) (by unfold cY; omega) (by unfold cY; omega)
theorem m_wr {n : Nat} (hn : n38 n) {m : Mem} (hL : LM n m) {W : Nat → Int64} (hW : ∀ t, t < nT n → m.J 72 t = W t) {r : Nat} (hr : r < nR n) : ∃ m1, f_X4_whyRelation 61 (nI r) (HH m) = some (orF (fun w => W (fac n r w)) 6, HH m1) ∧ Fr cK m m1 := by
  have h8 := nT_le hn
  obtain ⟨m1, e1, k1, f1⟩ := m_looksAt hn hL hr
  have e72 : m1.J 72 = m.J 72 := (f1.1 72 (by unfold cK; omega)).2
  have key : ∃ b, l_X4_whyRelation_10 61 (HH m1) FU 0 (nI 0) = some b ∧ b = orF (fun w => W (fac n r w)) 6 := by
    refine loopR (fun fuel (a : Int64 × Int32) => l_X4_whyRelation_10 61 (HH m1) fuel a.1 a.2) (fun k a => a = (orF (fun w => W (fac n r w)) k, nI k)) _ 6 ?_ ?_ 6 0 (0, nI 0) FU (by omega) (FUx (by omega)) rfl
    · rintro k a fuel hk rfl
      have hl := fac_lt hn hr hk
      refine Or.inl ⟨(orF (fun w => W (fac n r w)) (k + 1), nI (k + 1)), ?_, rfl⟩
      simp (disch := omega) only [l_X4_whyRelation_10, le6, if_neg (show ¬ 6 ≤ k by omega), o_0, g_0_0, g_0_1, g_0_2, g_0_3, g_0_4, g_0_5, g_0_6, g_0_7, g_0_8, g_0_9, g_0_10, g_0_11, o_1, g_1_0, g_1_1, g_1_2, g_1_3, g_1_4, g_1_5, g_1_6, g_1_7, g_1_8, g_1_9, r_2, r_3, r_4, r_5, r_6, r_7, r_8, o_9, g_9_0, g_9_1, g_9_2, g_9_3, g_9_4, g_9_5, g_9_6, g_9_7, g_9_8, g_9_9, r_10, r_11, r_12, r_13, r_14, r_15, r_16, o_17, g_17_0, g_17_1, g_17_2, g_17_3, g_17_4, r_18, r_19, r_20, r_22, r_23, r_24, r_25, r_26, r_27, r_28, o_29, g_29_0, g_29_1, g_29_2, g_29_3, g_29_4, g_29_5, g_29_6, g_29_7, g_29_8, g_29_9, r_30, r_31, r_32, r_33, r_34, r_35, r_36, o_37, g_37_0, g_37_1, g_37_2, g_37_3, g_37_4, g_37_5, g_37_6, g_37_7, g_37_8, g_37_9, r_38, r_39, r_40, r_41, r_42, r_43, r_44, o_45, g_45_0, g_45_1, g_45_2, g_45_3, g_45_4, g_45_5, g_45_6, g_45_7, g_45_8, g_45_9, r_46, r_47, r_48, r_49, r_50, r_51, r_52, o_53, g_53_0, g_53_1, g_53_2, g_53_3, g_53_4, g_53_5, g_53_6, g_53_7, g_53_8, g_53_9, r_54, r_55, r_56, r_57, r_58, r_59, r_60, o_61, g_61_0, g_61_1, g_61_2, g_61_3, g_61_4, g_61_5, g_61_6, g_61_7, g_61_8, g_61_9, g_61_10, g_61_11, g_61_12, g_61_13, g_61_14, g_61_15, g_61_16, g_61_17, g_61_18, g_61_19, g_61_20, g_61_21, g_61_22, g_61_23, r_62, r_63, r_64, r_65, r_66, r_67, r_68, r_69, r_70, r_71, r_72, r_73, r_74, r_75, r_76, r_77, Option.bind_some, (k1 k hk).1, add_1, orF_s]
      rw [e72, hW _ hl]
    · rintro a fuel rfl
      refine ⟨_, ?_, rfl⟩
      simp (disch := omega) only [l_X4_whyRelation_10, le6, if_pos (Nat.le_refl 6)]
  obtain ⟨b, e, rfl⟩ := key
  refine ⟨m1, ?_, f1⟩
  simp only [f_X4_whyRelation, o_61, Option.bind_some, e1]
  rw [show l_X4_whyRelation_10 61 (HH m1) FU 0 0 = _ from e, Option.bind_some]
/-- a derived triple's step -/
def stp (s : Nat → Int32) (t : Nat) : Nat := (s (3 + 4 * t + 3)).toInt.toNat
/-- the reasons that are laid before a step -/
def Wst (s : Nat → Int32) (M : Nat → Int64) (st t : Nat) : Int64 := if s (3 + 4 * t + 1) = 2 ∧ st ≤ stp s t then 0 else M t
theorem stp_e {s : Nat → Int32} {t x : Nat} (hx : x < 2 ^ 31) (h : s (3 + 4 * t + 3) = nI x) : stp s t = x := by
  unfold stp
  rw [h, nI_toInt hx]
  omega
theorem m_wh0 {n : Nat} {m : Mem} {M : Nat → Int64} (g : GG n (m.I 62) M) (hL : LM n m) : ∃ m1, l_X4_laysReasons_2 61 FU 0 (HH m) = some (HH m1) ∧ (∀ t, t < nT n → m1.J 72 t = Wst (m.I 62) M 1 t) ∧ Fr (cC 72) m m1 := by
  have hT := nT_le g.1
  have key : ∃ b, l_X4_laysReasons_2 61 FU (nI 0) (HH m) = some b ∧ ∃ m1, b = HH m1 ∧ (∀ t, t < nT n → m1.J 72 t = Wst (m.I 62) M 1 t) ∧ Fr (cC 72) m m1 := by
    refine loopR (fun fuel (a : Int32 × Hp) => l_X4_laysReasons_2 61 fuel a.1 a.2) (fun k a => ∃ m1, a = (nI k, HH m1) ∧ (∀ t, t < k → m1.J 72 t = Wst (m.I 62) M 1 t) ∧ Fr (cC 72) m m1) _ (nT n) ?_ ?_ (nT n) 0 (nI 0, HH m) FU (by omega) (FUx (by omega)) ⟨m, rfl, fun t ht => absurd ht (Nat.not_lt_zero t), Fr_rf _ m⟩
    · rintro k a fuel hk ⟨m1, rfl, hv, hf⟩
      have e9 : m1.I 61 9 = nI (nT n) := by rw [(hf.1 61 (by unfold cC; omega)).1]; exact hL.1
      have e62 : m1.I 62 = m.I 62 := (hf.1 62 (by unfold cC; omega)).1
      have ev : (if m.I 62 (3 + 4 * k + 1) = 1 then some ((1 : Int64) <<< ((nI k).toInt64 &&& 63)) else some 0) = some (Wst (m.I 62) M 1 k) := by
        rcases g.2.2.2 k (by omega) with h | h | ⟨r, st, h⟩
        · unfold Wst
          rw [h.1, if_neg (by decide), if_neg (fun q => absurd q.1 (by decide)), h.2.2.2]
        · unfold Wst
          rw [h.2.1, if_pos rfl, if_neg (fun q => absurd q.1 (by decide)), h.2.2.2.2]
          rfl
        · unfold Wst
          have hm : many (m.I 62) 2 (nT n) ≤ nT n := cntN_le _ _
          rw [h.2.1, if_neg (by decide), if_pos ⟨rfl, by rw [stp_e (by have := h.2.2.2.2.2.2.2.1; omega) h.2.2.2.2.2.1]; exact h.2.2.2.2.2.2.1⟩]
      refine Or.inl ⟨(nI (k + 1), HH (m1.sJ 72 k (Wst (m.I 62) M 1 k))), ?_, _, rfl, ?_, Fr_sJ hf rfl⟩
      · simp (disch := omega) only [l_X4_laysReasons_2, g_61_9, e9, leN, if_neg (show ¬ nT n ≤ k by omega), o_0, g_0_0, g_0_1, g_0_2, g_0_3, g_0_4, p_0_4, g_0_5, g_0_6, g_0_7, g_0_8, g_0_9, g_0_10, g_0_11, o_1, g_1_0, p_1_0, g_1_1, p_1_1, g_1_2, p_1_2, g_1_3, g_1_4, g_1_5, g_1_6, g_1_7, g_1_8, g_1_9, r_2, w_2, r_3, w_3, r_4, w_4, r_5, w_5, r_6, w_6, r_7, w_7, r_8, w_8, o_9, g_9_0, p_9_0, g_9_1, p_9_1, g_9_2, p_9_2, g_9_3, g_9_4, g_9_5, g_9_6, g_9_7, g_9_8, g_9_9, r_10, w_10, r_11, w_11, r_12, w_12, r_13, w_13, r_14, w_14, r_15, w_15, r_16, w_16, o_17, g_17_0, g_17_1, p_17_1, g_17_2, g_17_3, g_17_4, p_17_4, r_18, w_18, r_19, w_19, r_20, w_20, r_22, w_22, r_23, w_23, r_24, w_24, r_25, w_25, r_26, w_26, r_27, w_27, r_28, w_28, o_29, g_29_0, p_29_0, g_29_1, p_29_1, g_29_2, p_29_2, g_29_3, g_29_4, g_29_5, g_29_6, g_29_7, g_29_8, g_29_9, r_30, w_30, r_31, w_31, r_32, w_32, r_33, w_33, r_34, w_34, r_35, w_35, r_36, w_36, o_37, g_37_0, p_37_0, g_37_1, p_37_1, g_37_2, p_37_2, g_37_3, g_37_4, g_37_5, g_37_6, g_37_7, g_37_8, g_37_9, r_38, w_38, r_39, w_39, r_40, w_40, r_41, w_41, r_42, w_42, r_43, w_43, r_44, w_44, o_45, g_45_0, p_45_0, g_45_1, p_45_1, g_45_2, p_45_2, g_45_3, g_45_4, g_45_5, g_45_6, g_45_7, g_45_8, g_45_9, r_46, w_46, r_47, w_47, r_48, w_48, r_49, w_49, r_50, w_50, r_51, w_51, r_52, w_52, o_53, g_53_0, p_53_0, g_53_1, p_53_1, g_53_2, p_53_2, g_53_3, g_53_4, g_53_5, g_53_6, g_53_7, g_53_8, g_53_9, r_54, w_54, r_55, w_55, r_56, w_56, r_57, w_57, r_58, w_58, r_59, w_59, r_60, w_60, o_61, g_61_0, g_61_1, g_61_2, g_61_3, p_61_3, g_61_4, g_61_5, p_61_5, g_61_6, p_61_6, g_61_7, g_61_8, g_61_9, p_61_9, g_61_10, g_61_11, p_61_11, g_61_12, p_61_12, g_61_13, g_61_14, g_61_15, g_61_16, g_61_17, g_61_18, g_61_19, g_61_20, p_61_20, g_61_21, p_61_21, g_61_22, g_61_23, p_61_23, r_62, w_62, r_63, w_63, r_64, w_64, r_65, w_65, r_66, w_66, r_67, w_67, r_68, w_68, r_69, w_69, r_70, w_70, r_71, w_71, r_72, w_72, r_73, w_73, r_74, w_74, r_75, w_75, r_76, w_76, r_77, w_77, Option.bind_some, get_1, e62, ev, add_1]
      · intro t ht
        show (if 72 = 72 then vp_updL (m1.J 72) k (Wst (m.I 62) M 1 k) else m1.J 72) t = _
        rw [if_pos rfl, updL_g]
        by_cases c : t = k
        · rw [if_pos c, c]
        · rw [if_neg c]
          exact hv t (by omega)
    · rintro a fuel ⟨m1, rfl, hv, hf⟩
      have e9 : m1.I 61 9 = nI (nT n) := by rw [(hf.1 61 (by unfold cC; omega)).1]; exact hL.1
      refine ⟨_, ?_, m1, rfl, hv, hf⟩
      simp (disch := omega) only [l_X4_laysReasons_2, g_61_9, e9, leN, if_pos (Nat.le_refl (nT n)), Option.bind_some]
  obtain ⟨b, e, m1, rfl, hv, hf⟩ := key
  exact ⟨m1, e, hv, hf⟩
theorem m_wh1 {n : Nat} {s : Nat → Int32} {M : Nat → Int64} (g : GG n s M) {m : Mem} (hs : m.I 62 = s) (hL : LM n m) {st : Nat} (hst : st ≤ 56) (h1 : 1 ≤ st) (hW : ∀ t, t < nT n → m.J 72 t = Wst s M st t) : ∃ m1, l_X4_laysReasons_54 61 (nI st) FU 0 (HH m) = some (HH m1) ∧ (∀ t, t < nT n → m1.J 72 t = Wst s M (st + 1) t) ∧ Fr cY m m1 := by
  have hn := g.1
  have hT := nT_le hn
  have hR := nR_le hn
  have hm : many s 2 (nT n) ≤ nT n := cntN_le _ _
  have key : ∃ b, l_X4_laysReasons_54 61 (nI st) FU (nI 0) (HH m) = some b ∧ ∃ m1, b = HH m1 ∧ (∀ t, t < nT n → m1.J 72 t = Wst s M (st + 1) t) ∧ Fr cY m m1 := by
    refine loopR (fun fuel (a : Int32 × Hp) => l_X4_laysReasons_54 61 (nI st) fuel a.1 a.2) (fun k a => ∃ m1, a = (nI k, HH m1) ∧ (∀ t, t < nT n → m1.J 72 t = if t < k then Wst s M (st + 1) t else Wst s M st t) ∧ Fr cY m m1) _ (nT n) ?_ ?_ (nT n) 0 (nI 0, HH m) FU (by omega) (FUx (by omega)) ⟨m, rfl, fun t ht => by rw [if_neg (Nat.not_lt_zero t)]; exact hW t ht, Fr_rf _ m⟩
    · rintro k a fuel hk ⟨m1, rfl, hv, hf⟩
      have hL1 := LM_Y hL hf
      have e62 : m1.I 62 = s := by rw [(hf.1 62 (by unfold cY; omega)).1]; exact hs
      have nxt : ∀ {x : Int64} {m2 : Mem}, m2.J 72 = vp_updL (m1.J 72) k x → x = Wst s M (st + 1) k → ∀ t, t < nT n → m2.J 72 t = if t < k + 1 then Wst s M (st + 1) t else Wst s M st t := by
        intro x m2 e ex t ht
        rw [e, updL_g]
        by_cases c : t = k
        · rw [if_pos c, if_pos (by omega), ex, c]
        · rw [if_neg c, hv t ht]
          exact ifI ⟨fun h => by omega, fun h => by omega⟩
      by_cases c : s (3 + 4 * k + 3) = nI st
      · have gk : ∃ r st2, G2 n s M k r st2 := by
          rcases g.2.2.2 k (by omega) with h | h | h
          · exact absurd (c.symm.trans h.2.2.1) (nI_no (by omega))
          · exact absurd (c.symm.trans h.2.2.2.1) (nI_no (by omega))
          · exact h
        obtain ⟨r, st2, y1, y2, y3, y4, y5, y6, y7, y8, y9, y10⟩ := gk
        have est : st2 = st := by
          have := y6.symm.trans c
          exact (nI_eq (by omega) (by omega)).mp this
        subst est
        obtain ⟨m2, e2, f2⟩ := m_wr hn hL1 hv y4
        have eor : orF (fun w => if fac n r w < k then Wst s M (st2 + 1) (fac n r w) else Wst s M st2 (fac n r w)) 6 = M k := by
          rw [y9]
          refine orF_cg 6 (fun w hw => ?_)
          show (if fac n r w < k then Wst s M (st2 + 1) (fac n r w) else Wst s M st2 (fac n r w)) = if fac n r w = k then 0 else M (fac n r w)
          by_cases ck : fac n r w = k
          · rw [if_neg (by omega), if_pos ck, ck]
            unfold Wst
            rw [if_pos ⟨y2, by rw [stp_e (by omega) y6]; exact Nat.le_refl _⟩]
          · rw [if_neg ck]
            have any : ∀ x, st2 ≤ x → Wst s M x (fac n r w) = M (fac n r w) := by
              intro x hx
              unfold Wst
              rcases (y10 w hw).resolve_left ck with h | ⟨h, qq, hq, hlt⟩
              · rw [if_neg (fun z => by rw [h] at z; exact absurd z.1 (by decide))]
              · rw [if_neg (fun z => by rw [stp_e (by omega) hq] at z; have := z.2; omega)]
            split
            · exact any _ (by omega)
            · exact any _ (Nat.le_refl _)
        have eM : M k = Wst s M (st2 + 1) k := by
          unfold Wst
          rw [if_neg (fun z => by rw [stp_e (by omega) y6] at z; have := z.2; omega)]
        have f2y : Fr cY m1 m2 := Fr_w (d := cY) f2 (fun a h => by unfold cK at h; unfold cY; omega)
        refine Or.inl ⟨(nI (k + 1), HH (m2.sJ 72 k (M k))), ?_, _, rfl, ?_, Fr_sJ (Fr_tr hf f2y) (Or.inr (Or.inr rfl))⟩
        · have e5 : m1.I 62 (3 + 4 * k + 2) = nI r := by rw [e62]; exact y5
          have e3 : m1.I 62 (3 + 4 * k + 3) = nI st2 := by rw [e62]; exact y6
          simp (disch := omega) only [l_X4_laysReasons_54, hL1.1, leN, if_neg (show ¬ nT n ≤ k by omega), o_0, g_0_0, g_0_1, g_0_2, g_0_3, g_0_4, p_0_4, g_0_5, g_0_6, g_0_7, g_0_8, g_0_9, g_0_10, g_0_11, o_1, g_1_0, p_1_0, g_1_1, p_1_1, g_1_2, p_1_2, g_1_3, g_1_4, g_1_5, g_1_6, g_1_7, g_1_8, g_1_9, r_2, w_2, r_3, w_3, r_4, w_4, r_5, w_5, r_6, w_6, r_7, w_7, r_8, w_8, o_9, g_9_0, p_9_0, g_9_1, p_9_1, g_9_2, p_9_2, g_9_3, g_9_4, g_9_5, g_9_6, g_9_7, g_9_8, g_9_9, r_10, w_10, r_11, w_11, r_12, w_12, r_13, w_13, r_14, w_14, r_15, w_15, r_16, w_16, o_17, g_17_0, g_17_1, p_17_1, g_17_2, g_17_3, g_17_4, p_17_4, r_18, w_18, r_19, w_19, r_20, w_20, r_22, w_22, r_23, w_23, r_24, w_24, r_25, w_25, r_26, w_26, r_27, w_27, r_28, w_28, o_29, g_29_0, p_29_0, g_29_1, p_29_1, g_29_2, p_29_2, g_29_3, g_29_4, g_29_5, g_29_6, g_29_7, g_29_8, g_29_9, r_30, w_30, r_31, w_31, r_32, w_32, r_33, w_33, r_34, w_34, r_35, w_35, r_36, w_36, o_37, g_37_0, p_37_0, g_37_1, p_37_1, g_37_2, p_37_2, g_37_3, g_37_4, g_37_5, g_37_6, g_37_7, g_37_8, g_37_9, r_38, w_38, r_39, w_39, r_40, w_40, r_41, w_41, r_42, w_42, r_43, w_43, r_44, w_44, o_45, g_45_0, p_45_0, g_45_1, p_45_1, g_45_2, p_45_2, g_45_3, g_45_4, g_45_5, g_45_6, g_45_7, g_45_8, g_45_9, r_46, w_46, r_47, w_47, r_48, w_48, r_49, w_49, r_50, w_50, r_51, w_51, r_52, w_52, o_53, g_53_0, p_53_0, g_53_1, p_53_1, g_53_2, p_53_2, g_53_3, g_53_4, g_53_5, g_53_6, g_53_7, g_53_8, g_53_9, r_54, w_54, r_55, w_55, r_56, w_56, r_57, w_57, r_58, w_58, r_59, w_59, r_60, w_60, o_61, g_61_0, g_61_1, g_61_2, g_61_3, p_61_3, g_61_4, g_61_5, p_61_5, g_61_6, p_61_6, g_61_7, g_61_8, g_61_9, p_61_9, g_61_10, g_61_11, p_61_11, g_61_12, p_61_12, g_61_13, g_61_14, g_61_15, g_61_16, g_61_17, g_61_18, g_61_19, g_61_20, p_61_20, g_61_21, p_61_21, g_61_22, g_61_23, p_61_23, r_62, w_62, r_63, w_63, r_64, w_64, r_65, w_65, r_66, w_66, r_67, w_67, r_68, w_68, r_69, w_69, r_70, w_70, r_71, w_71, r_72, w_72, r_73, w_73, r_74, w_74, r_75, w_75, r_76, w_76, r_77, w_77, Option.bind_some, get_3, get_2, e3, e5, if_true, e2, bind2, eor, add_1]
        · refine nxt ?_ eM
          show (if 72 = 72 then vp_updL (m2.J 72) k (M k) else m2.J 72) = _
          rw [if_pos rfl, (f2.1 72 (by unfold cK; omega)).2]
      · refine Or.inl ⟨(nI (k + 1), HH m1), ?_, m1, rfl, ?_, hf⟩
        · have e3 : ¬ m1.I 62 (3 + 4 * k + 3) = nI st := by rw [e62]; exact c
          simp (disch := omega) only [l_X4_laysReasons_54, g_61_9, hL1.1, leN, if_neg (show ¬ nT n ≤ k by omega), Option.bind_some, get_3, if_neg e3, add_1]
        · intro t ht
          rw [hv t ht]
          by_cases ck : t = k
          · subst ck
            rw [if_neg (by omega), if_pos (by omega)]
            unfold Wst
            refine ifI ⟨fun z => ⟨z.1, ?_⟩, fun z => ⟨z.1, by omega⟩⟩
            rcases g.2.2.2 t (by omega) with h | h | ⟨r, st2, h⟩
            · rw [h.1] at z
              exact absurd z.1 (by decide)
            · rw [h.2.1] at z
              exact absurd z.1 (by decide)
            · have y6 := h.2.2.2.2.2.1
              have y8 := h.2.2.2.2.2.2.2.1
              have e := stp_e (by omega) y6
              have : stp s t ≠ st := fun e2 => c (by rw [y6, ← e, e2])
              omega
          · exact ifI ⟨fun h => by omega, fun h => by omega⟩
    · rintro a fuel ⟨m1, rfl, hv, hf⟩
      have hL1 := LM_Y hL hf
      refine ⟨_, ?_, m1, rfl, fun t ht => by rw [hv t ht, if_pos ht], hf⟩
      simp (disch := omega) only [l_X4_laysReasons_54, g_61_9, hL1.1, leN, if_pos (Nat.le_refl (nT n)), Option.bind_some]
  obtain ⟨b, e, m1, rfl, hv, hf⟩ := key
  exact ⟨m1, e, hv, hf⟩
theorem m_why {n : Nat} {m : Mem} {M : Nat → Int64} (g : GG n (m.I 62) M) (hL : LM n m) : ∃ m1, f_X4_laysReasons 61 (HH m) = some (HH m1) ∧ (∀ t, t < nT n → m1.J 72 t = M t) ∧ Fr cY m m1 := by
  have hn := g.1
  have hT := nT_le hn
  have hm : many (m.I 62) 2 (nT n) ≤ nT n := cntN_le _ _
  obtain ⟨m0, e0, w0, f0⟩ := m_wh0 g hL
  have f0y : Fr cY m m0 := Fr_w (d := cY) f0 (fun a h => Or.inr (Or.inr h))
  have hL0 := LM_Y hL f0y
  have s0 : m0.I 62 = m.I 62 := (f0y.1 62 (by unfold cY; omega)).1
  have key : ∀ d st (m1 : Mem) fuel, st + d = many (m.I 62) 2 (nT n) + 1 → 1 ≤ st → d < fuel → (∀ t, t < nT n → m1.J 72 t = Wst (m.I 62) M st t) → Fr cY m m1 → ∃ m2, l_X4_laysReasons_47 61 (nI (many (m.I 62) 2 (nT n))) fuel (nI st) (HH m1) = some (HH m2) ∧ (∀ t, t < nT n → m2.J 72 t = Wst (m.I 62) M (many (m.I 62) 2 (nT n) + 1) t) ∧ Fr cY m m2 := by
    intro d
    induction d with
    | zero =>
      intro st m1 fuel hd h1 hf hw hfr
      obtain ⟨f, rfl⟩ : ∃ f, fuel = f + 1 := ⟨fuel - 1, by omega⟩
      have e : st = many (m.I 62) 2 (nT n) + 1 := by omega
      subst e
      refine ⟨m1, ?_, hw, hfr⟩
      have : nI (many (m.I 62) 2 (nT n)) < nI (many (m.I 62) 2 (nT n) + 1) := by
        rw [Int32.lt_iff_toInt_lt, nI_toInt (by omega), nI_toInt (by omega)]
        omega
      rw [l_X4_laysReasons_47, if_pos this]
    | succ d ih =>
      intro st m1 fuel hd h1 hf hw hfr
      obtain ⟨f, rfl⟩ : ∃ f, fuel = f + 1 := ⟨fuel - 1, by omega⟩
      have hL1 := LM_Y hL hfr
      obtain ⟨m2, e2, w2, f2⟩ := m_wh1 g ((hfr.1 62 (by unfold cY; omega)).1) hL1 (st := st) (by omega) h1 hw
      obtain ⟨m3, e3, w3, f3⟩ := ih (st + 1) m2 f (by omega) (by omega) (by omega) w2 (Fr_tr hfr f2)
      refine ⟨m3, ?_, w3, f3⟩
      have : ¬ nI (many (m.I 62) 2 (nT n)) < nI st := by
        rw [Int32.lt_iff_toInt_lt, nI_toInt (by omega), nI_toInt (by omega)]
        omega
      rw [l_X4_laysReasons_47, if_neg this, e2, Option.bind_some, add_1]
      exact e3
  obtain ⟨m2, e2, w2, f2⟩ := key (many (m.I 62) 2 (nT n)) 1 m0 FU (by omega) (Nat.le_refl 1) (FUx (by omega)) w0 f0y
  refine ⟨m2, ?_, fun t ht => ?_, f2⟩
  · have em := m_many m0 2 hT hL0.1
    rw [s0] at em
    simp only [f_X4_laysReasons, o_61, Option.bind_some]
    rw [show l_X4_laysReasons_2 61 FU 0 (HH m) = _ from e0, Option.bind_some, em, Option.bind_some, show l_X4_laysReasons_47 61 _ FU 1 (HH m0) = _ from e2, Option.bind_some]
  · rw [w2 t ht]
    unfold Wst
    rw [if_neg]
    intro z
    rcases g.2.2.2 t (by omega) with h | h | ⟨r, st2, h⟩
    · rw [h.1] at z
      exact absurd z.1 (by decide)
    · rw [h.2.1] at z
      exact absurd z.1 (by decide)
    · have y8 := h.2.2.2.2.2.2.2.1
      have e := stp_e (by omega) h.2.2.2.2.2.1
      have := z.2
      omega
