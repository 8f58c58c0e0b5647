/-! undo, type, clearScript -/
section Undo
variable {m : Mem}
theorem m_back243 {q : Nat} (hq : q < 4) {m : Mem} (h3 : m.I 61 3 = nI q) : l_X4_undo_25 61 FU 0 (HH m) = some (HH (m.rI 62 (fun k => if k < 243 then m.I 63 (243 * q + k) else m.I 62 k))) := by
  have key : ∃ b, l_X4_undo_25 61 FU (nI 0) (HH m) = some b ∧ b = HH (m.rI 62 (fun k => if k < 243 then m.I 63 (243 * q + k) else m.I 62 k)) := by
    refine loopR (fun fuel (a : Int32 × Hp) => l_X4_undo_25 61 fuel a.1 a.2) (fun k a => a = (nI k, HH (m.rI 62 (fun j => if j < k then m.I 63 (243 * q + j) else m.I 62 j)))) _ 243 ?_ ?_ 243 0 (nI 0, HH m) FU (by omega) (FUx (by omega)) ?_
    · rintro k a fuel hk rfl
      refine Or.inl ⟨(nI (k + 1), HH (m.rI 62 (fun j => if j < k + 1 then m.I 63 (243 * q + j) else m.I 62 j))), ?_, rfl⟩
      have er : upd (fun j => if j < k then m.I 63 (243 * q + j) else m.I 62 j) k (m.I 63 (243 * q + k)) = fun j => if j < k + 1 then m.I 63 (243 * q + j) else m.I 62 j := by
        funext j
        rw [upd_g]
        by_cases c : j = k
        · rw [if_pos c, if_pos (by omega), c]
        · rw [if_neg c]
          exact ifI ⟨fun h => by omega, fun h => by omega⟩
      have e3 : ∀ f, (m.rI 62 f).I 61 3 = nI q := fun f => h3
      have e63 : ∀ f, (m.rI 62 f).I 63 (243 * q + k) = m.I 63 (243 * q + k) := fun f => rfl
      simp (disch := omega) only [l_X4_undo_25, leN, show (243 : Int32) = nI 243 from rfl, if_neg (show ¬ 243 ≤ k by omega), pk_mul, nI_add, o_0, g_0_0, g_0_1, g_0_2, g_0_3, g_0_4, p_0_4, g_0_5, g_0_6, g_0_7, g_0_8, g_0_9, g_0_10, g_0_11, o_1, g_1_0, p_1_0, g_1_1, p_1_1, g_1_2, p_1_2, g_1_3, g_1_4, g_1_5, g_1_6, g_1_7, g_1_8, g_1_9, r_2, w_2, r_3, w_3, r_4, w_4, r_5, w_5, r_6, w_6, r_7, w_7, r_8, w_8, o_9, g_9_0, p_9_0, g_9_1, p_9_1, g_9_2, p_9_2, g_9_3, g_9_4, g_9_5, g_9_6, g_9_7, g_9_8, g_9_9, r_10, w_10, r_11, w_11, r_12, w_12, r_13, w_13, r_14, w_14, r_15, w_15, r_16, w_16, o_17, g_17_0, g_17_1, p_17_1, g_17_2, g_17_3, g_17_4, p_17_4, r_18, w_18, r_19, w_19, r_20, w_20, r_22, w_22, r_23, w_23, r_24, w_24, r_25, w_25, r_26, w_26, r_27, w_27, r_28, w_28, o_29, g_29_0, p_29_0, g_29_1, p_29_1, g_29_2, p_29_2, g_29_3, g_29_4, g_29_5, g_29_6, g_29_7, g_29_8, g_29_9, r_30, w_30, r_31, w_31, r_32, w_32, r_33, w_33, r_34, w_34, r_35, w_35, r_36, w_36, o_37, g_37_0, p_37_0, g_37_1, p_37_1, g_37_2, p_37_2, g_37_3, g_37_4, g_37_5, g_37_6, g_37_7, g_37_8, g_37_9, r_38, w_38, r_39, w_39, r_40, w_40, r_41, w_41, r_42, w_42, r_43, w_43, r_44, w_44, o_45, g_45_0, p_45_0, g_45_1, p_45_1, g_45_2, p_45_2, g_45_3, g_45_4, g_45_5, g_45_6, g_45_7, g_45_8, g_45_9, r_46, w_46, r_47, w_47, r_48, w_48, r_49, w_49, r_50, w_50, r_51, w_51, r_52, w_52, o_53, g_53_0, p_53_0, g_53_1, p_53_1, g_53_2, p_53_2, g_53_3, g_53_4, g_53_5, g_53_6, g_53_7, g_53_8, g_53_9, r_54, w_54, r_55, w_55, r_56, w_56, r_57, w_57, r_58, w_58, r_59, w_59, r_60, w_60, o_61, g_61_0, g_61_1, g_61_2, g_61_3, p_61_3, g_61_4, g_61_5, p_61_5, g_61_6, p_61_6, g_61_7, g_61_8, g_61_9, p_61_9, g_61_10, g_61_11, p_61_11, g_61_12, p_61_12, g_61_13, g_61_14, g_61_15, g_61_16, g_61_17, g_61_18, g_61_19, g_61_20, p_61_20, g_61_21, p_61_21, g_61_22, g_61_23, p_61_23, r_62, w_62, r_63, w_63, r_64, w_64, r_65, w_65, r_66, w_66, r_67, w_67, r_68, w_68, r_69, w_69, r_70, w_70, r_71, w_71, r_72, w_72, r_73, w_73, r_74, w_74, r_75, w_75, r_76, w_76, r_77, w_77, Option.bind_some, e3, e63, rI_sI, er, add_1]
    · rintro a fuel rfl
      refine ⟨_, ?_, rfl⟩
      simp (disch := omega) only [l_X4_undo_25, le243, if_pos (Nat.le_refl 243)]
    · have : (fun j => if j < 0 then m.I 63 (243 * q + j) else m.I 62 j) = m.I 62 := by
        funext j
        rw [if_neg (by omega)]
      rw [this, rI_id]
  obtain ⟨b, e, rfl⟩ := key
  exact e
theorem k_undo (hi : INV m) : okW (f_L_undo 0 77) (f_X4_undo 61) m := by
  obtain ⟨n, s, M, q, P, PM, tl, tx, hC, hD, b⟩ := INV_out hi
  have hn := b.1.1
  have h8 := hn.2
  have hq4 := b.2.1
  by_cases c : q = 0
  · subst c
    refine W_thr (k := 1) (by decide) ?_ hC b ⟨0, _, ?_, fl hD 1⟩
    · have e : m.I 0 4 = nI 0 := hC.2.2.2.1
      simp only [f_L_undo, f_X3_undo, o_0, g_0_0, g_0_1, g_0_2, g_0_3, g_0_4, g_0_5, g_0_6, g_0_7, g_0_8, g_0_9, g_0_10, g_0_11, o_1, g_1_0, g_1_1, g_1_2, g_1_3, g_1_4, g_1_5, g_1_6, g_1_7, g_1_8, g_1_9, r_2, r_3, r_4, r_5, r_6, r_7, r_8, o_9, g_9_0, g_9_1, g_9_2, g_9_3, g_9_4, g_9_5, g_9_6, g_9_7, g_9_8, g_9_9, r_10, r_11, r_12, r_13, r_14, r_15, r_16, o_17, g_17_0, g_17_1, g_17_2, g_17_3, g_17_4, r_18, r_19, r_20, r_22, r_23, r_24, r_25, r_26, r_27, r_28, o_29, g_29_0, g_29_1, g_29_2, g_29_3, g_29_4, g_29_5, g_29_6, g_29_7, g_29_8, g_29_9, r_30, r_31, r_32, r_33, r_34, r_35, r_36, o_37, g_37_0, g_37_1, g_37_2, g_37_3, g_37_4, g_37_5, g_37_6, g_37_7, g_37_8, g_37_9, r_38, r_39, r_40, r_41, r_42, r_43, r_44, o_45, g_45_0, g_45_1, g_45_2, g_45_3, g_45_4, g_45_5, g_45_6, g_45_7, g_45_8, g_45_9, r_46, r_47, r_48, r_49, r_50, r_51, r_52, o_53, g_53_0, g_53_1, g_53_2, g_53_3, g_53_4, g_53_5, g_53_6, g_53_7, g_53_8, g_53_9, r_54, r_55, r_56, r_57, r_58, r_59, r_60, o_61, g_61_0, g_61_1, g_61_2, g_61_3, g_61_4, g_61_5, g_61_6, g_61_7, g_61_8, g_61_9, g_61_10, g_61_11, g_61_12, g_61_13, g_61_14, g_61_15, g_61_16, g_61_17, g_61_18, g_61_19, g_61_20, g_61_21, g_61_22, g_61_23, r_62, r_63, r_64, r_65, r_66, r_67, r_68, r_69, r_70, r_71, r_72, r_73, r_74, r_75, r_76, r_77, Option.bind_some, e, if_pos (show nI 0 < (1 : Int32) by decide), bindTW, if_true]
    · have e : m.I 61 3 = nI 0 := hD.2.2.1
      simp only [f_X4_undo, o_0, g_0_0, g_0_1, g_0_2, g_0_3, g_0_4, g_0_5, g_0_6, g_0_7, g_0_8, g_0_9, g_0_10, g_0_11, o_1, g_1_0, g_1_1, g_1_2, g_1_3, g_1_4, g_1_5, g_1_6, g_1_7, g_1_8, g_1_9, r_2, r_3, r_4, r_5, r_6, r_7, r_8, o_9, g_9_0, g_9_1, g_9_2, g_9_3, g_9_4, g_9_5, g_9_6, g_9_7, g_9_8, g_9_9, r_10, r_11, r_12, r_13, r_14, r_15, r_16, o_17, g_17_0, g_17_1, g_17_2, g_17_3, g_17_4, r_18, r_19, r_20, r_22, r_23, r_24, r_25, r_26, r_27, r_28, o_29, g_29_0, g_29_1, g_29_2, g_29_3, g_29_4, g_29_5, g_29_6, g_29_7, g_29_8, g_29_9, r_30, r_31, r_32, r_33, r_34, r_35, r_36, o_37, g_37_0, g_37_1, g_37_2, g_37_3, g_37_4, g_37_5, g_37_6, g_37_7, g_37_8, g_37_9, r_38, r_39, r_40, r_41, r_42, r_43, r_44, o_45, g_45_0, g_45_1, g_45_2, g_45_3, g_45_4, g_45_5, g_45_6, g_45_7, g_45_8, g_45_9, r_46, r_47, r_48, r_49, r_50, r_51, r_52, o_53, g_53_0, g_53_1, g_53_2, g_53_3, g_53_4, g_53_5, g_53_6, g_53_7, g_53_8, g_53_9, r_54, r_55, r_56, r_57, r_58, r_59, r_60, o_61, g_61_0, g_61_1, g_61_2, g_61_3, g_61_4, g_61_5, g_61_6, g_61_7, g_61_8, g_61_9, g_61_10, g_61_11, g_61_12, g_61_13, g_61_14, g_61_15, g_61_16, g_61_17, g_61_18, g_61_19, g_61_20, g_61_21, g_61_22, g_61_23, r_62, r_63, r_64, r_65, r_66, r_67, r_68, r_69, r_70, r_71, r_72, r_73, r_74, r_75, r_76, r_77, Option.bind_some, e, if_pos (show nI 0 = (0 : Int32) from rfl), m_fails, bind2]
  · obtain ⟨q', rfl⟩ : ∃ q', q = q' + 1 := ⟨q - 1, by omega⟩
    obtain ⟨k1, k2, k3, k4, k5, k6, k7, k8⟩ := id hC
    obtain ⟨n', gP⟩ := b.2.2.1 q' (by omega)
    have hn' := gP.1
    have h8' := hn'.2
    have vb := k5.1 q' (by omega)
    -- the class
    have e1 : (nI (q' + 1) - (1 : Int32)) = nI q' := pk_sub (a := q' + 1) (b := 1) (by omega)
    have lt1 : ¬ nI (q' + 1) < (1 : Int32) := by
      rw [Int32.lt_iff_toInt_lt, nI_toInt (by omega)]
      have : (1 : Int32).toInt = 1 := by decide
      omega
    have le4 : nI (q' + 1) ≤ (4 : Int32) := by
      rw [Int32.le_iff_toInt_le, nI_toInt (by omega)]
      have : (4 : Int32).toInt = 4 := by decide
      omega
    have f0 : Fr (cC 0) m (m.sI 0 4 (nI q')) := Fr_sI (Fr_rf _ m) rfl
    have rS : RS (m.V q') (m.sI 0 4 (nI q')) (P q') (PM q') := RS_fr (k6 q' (by omega)) f0 (fun a ha => by have := vS_lt vb ha; unfold cC; omega)
    obtain ⟨m2, e2, r2, f2⟩ := cpy_w rS gP.2.2.1 vb
    obtain ⟨R, eR⟩ : ∃ R, R = fun k => if k < 243 then P q' k else s k := ⟨_, rfl⟩
    have rR : RS 9 m2 R (PM q') := RS_cg r2 (fun k hk => by rw [eR]; exact if_pos hk) (fun _ _ => rfl)
    have gR : GG n' R (PM q') := GG_hi gP (fun k hk => by rw [eR]; exact if_pos (by omega))
    have C1 : CC n s M q' P PM tl tx (m.sI 0 4 (nI q')) := by
      refine ⟨LC_of k1 (fun a h1 _ => f0.1 a (by unfold cC; omega)), LZ_of k2 (by rw [sI_I, if_neg (by omega)]), RS_fr k3 f0 (fun a ha => by unfold cS at ha; unfold cC; omega), by rw [sI_at, if_pos rfl], k5, fun i hi => RS_fr (k6 i (by omega)) f0 (fun a ha => by have := vS_lt (k5.1 i (by omega)) ha; unfold cC; omega), k7, k8⟩
    have C2 : CC n R (PM q') q' P PM tl tx m2 := CC_now C1 (by omega) f2 rR
    have u2 : upC m m2 := upC_tr (upC_fr f0 (fun a h => by unfold cC at h; omega)) (upC_9 f2)
    have bq : BB n' R (PM q') q' P PM tl tx := ⟨gR, by omega, fun i hi => b.2.2.1 i (by omega), b.2.2.2.1, b.2.2.2.2⟩
    have ref : ∀ m3, DD n s (q' + 1) P tl tx m3 → ∃ c m4, f_X4_undo 61 (HH m3) = some (c, HH m4) ∧ c.toInt64 = (nI q').toInt64 ∧ DD n' R q' P tl tx m4 ∧ m4.I 61 6 = 0 ∧ upM m3 m4 := by
      intro m3 hD3
      obtain ⟨j1, j2, j3, j4, j5, j6⟩ := id hD3
      have eb := m_back243 (q := q') (by omega) (m := m3.sI 61 3 (nI q')) (by rw [sI_at, if_pos rfl])
      have er : (fun k => if k < 243 then (m3.sI 61 3 (nI q')).I 63 (243 * q' + k) else (m3.sI 61 3 (nI q')).I 62 k) = R := by
        rw [eR]
        funext k
        by_cases ck : k < 243
        · rw [if_pos ck, if_pos ck, sI_I, if_neg (by omega)]
          exact j4 q' k (by omega) ck
        · rw [if_neg ck, if_neg ck, sI_I, if_neg (by omega), j2]
      rw [er] at eb
      obtain ⟨m4, em4⟩ : ∃ m4, m4 = (m3.sI 61 3 (nI q')).rI 62 R := ⟨_, rfl⟩
      rw [← em4] at eb
      have D4 : DD n R q' P tl tx m4 := by
        rw [em4]
        refine ⟨LM_fr j1 ?_ ?_ rfl rfl rfl, rI_I _ _ _, ?_, fun i k hi hk => ?_, ?_, ?_⟩
        · rw [rI_n _ _ (by omega), sI_at, if_neg (by omega)]
        · rw [rI_n _ _ (by omega), sI_at, if_neg (by omega)]
        · rw [rI_n _ _ (by omega), sI_at, if_pos rfl]
        · rw [rI_n _ _ (by omega), sI_I, if_neg (by omega)]
          exact j4 i k (by omega) hk
        · rw [rI_n _ _ (by omega), sI_at, if_neg (by omega)]
          exact j5
        · rw [rI_n _ _ (by omega), sI_I, if_neg (by omega)]
          exact j6
      have p0 : P q' 0 = nI n' := gP.2.1
      obtain ⟨m5, e5, L5, f5⟩ := m_lays hn' (m := m4) (by rw [D4.2.1, eR]; exact (if_pos (by omega)).trans p0)
      have D5 := DD_N D4 f5 L5
      obtain ⟨d1, d2, d3⟩ := fl D5 0
      have z3 : ¬ nI (q' + 1) = (0 : Int32) := fun h => by
        have := (nI_eq (b := 0) (by omega) (by decide)).mp h
        omega
      refine ⟨nI q', _, ?_, rfl, d1, d2, upM_tr (s61 m3 3 (nI q')) (upM_tr (by rw [em4]; exact r62 _ _) (upM_tr (up_N f5) d3))⟩
      have j3 : m3.I 61 3 = nI (q' + 1) := j3
      simp only [f_X4_undo, o_0, g_0_0, g_0_1, g_0_2, g_0_3, g_0_4, p_0_4, g_0_5, g_0_6, g_0_7, g_0_8, g_0_9, g_0_10, g_0_11, o_1, g_1_0, p_1_0, g_1_1, p_1_1, g_1_2, p_1_2, g_1_3, g_1_4, g_1_5, g_1_6, g_1_7, g_1_8, g_1_9, r_2, w_2, r_3, w_3, r_4, w_4, r_5, w_5, r_6, w_6, r_7, w_7, r_8, w_8, o_9, g_9_0, p_9_0, g_9_1, p_9_1, g_9_2, p_9_2, g_9_3, g_9_4, g_9_5, g_9_6, g_9_7, g_9_8, g_9_9, r_10, w_10, r_11, w_11, r_12, w_12, r_13, w_13, r_14, w_14, r_15, w_15, r_16, w_16, o_17, g_17_0, g_17_1, p_17_1, g_17_2, g_17_3, g_17_4, p_17_4, r_18, w_18, r_19, w_19, r_20, w_20, r_22, w_22, r_23, w_23, r_24, w_24, r_25, w_25, r_26, w_26, r_27, w_27, r_28, w_28, o_29, g_29_0, p_29_0, g_29_1, p_29_1, g_29_2, p_29_2, g_29_3, g_29_4, g_29_5, g_29_6, g_29_7, g_29_8, g_29_9, r_30, w_30, r_31, w_31, r_32, w_32, r_33, w_33, r_34, w_34, r_35, w_35, r_36, w_36, o_37, g_37_0, p_37_0, g_37_1, p_37_1, g_37_2, p_37_2, g_37_3, g_37_4, g_37_5, g_37_6, g_37_7, g_37_8, g_37_9, r_38, w_38, r_39, w_39, r_40, w_40, r_41, w_41, r_42, w_42, r_43, w_43, r_44, w_44, o_45, g_45_0, p_45_0, g_45_1, p_45_1, g_45_2, p_45_2, g_45_3, g_45_4, g_45_5, g_45_6, g_45_7, g_45_8, g_45_9, r_46, w_46, r_47, w_47, r_48, w_48, r_49, w_49, r_50, w_50, r_51, w_51, r_52, w_52, o_53, g_53_0, p_53_0, g_53_1, p_53_1, g_53_2, p_53_2, g_53_3, g_53_4, g_53_5, g_53_6, g_53_7, g_53_8, g_53_9, r_54, w_54, r_55, w_55, r_56, w_56, r_57, w_57, r_58, w_58, r_59, w_59, r_60, w_60, o_61, g_61_0, g_61_1, g_61_2, g_61_3, p_61_3, g_61_4, g_61_5, p_61_5, g_61_6, p_61_6, g_61_7, g_61_8, g_61_9, p_61_9, g_61_10, g_61_11, p_61_11, g_61_12, p_61_12, g_61_13, g_61_14, g_61_15, g_61_16, g_61_17, g_61_18, g_61_19, g_61_20, p_61_20, g_61_21, p_61_21, g_61_22, g_61_23, p_61_23, r_62, w_62, r_63, w_63, r_64, w_64, r_65, w_65, r_66, w_66, r_67, w_67, r_68, w_68, r_69, w_69, r_70, w_70, r_71, w_71, r_72, w_72, r_73, w_73, r_74, w_74, r_75, w_75, r_76, w_76, r_77, w_77, Option.bind_some, j3, if_neg z3, e1, eb, e5, D5.2.2.1, m_tells, bind2]
    have q10 : m2.I 1 0 = nI n := C2.1.1
    have q90 : m2.I 9 0 = nI n' := by rw [rR.1]; exact gR.2.1
    have q04 : m2.I 0 4 = nI q' := C2.2.2.2.1
    have k4 : m.I 0 4 = nI (q' + 1) := k4
    have rq : aQ (HH (m.sI 0 4 (nI q'))) 21 (nI q') = some (m.V q') := rQ _ (by omega)
    have q4b : (m.sI 0 4 (nI q')).I 0 4 = nI q' := by rw [sI_at, if_pos rfl]
    by_cases cn : n = n'
    · subst cn
      refine W_ok (m1 := m2) (w := (nI q').toInt64) ?_ C2 u2 hD bq ref
      simp only [f_L_undo, f_X3_undo, o_0, g_0_0, g_0_1, g_0_2, g_0_3, g_0_4, p_0_4, g_0_5, g_0_6, g_0_7, g_0_8, g_0_9, g_0_10, g_0_11, o_1, g_1_0, p_1_0, g_1_1, p_1_1, g_1_2, p_1_2, g_1_3, g_1_4, g_1_5, g_1_6, g_1_7, g_1_8, g_1_9, r_2, w_2, r_3, w_3, r_4, w_4, r_5, w_5, r_6, w_6, r_7, w_7, r_8, w_8, o_9, g_9_0, p_9_0, g_9_1, p_9_1, g_9_2, p_9_2, g_9_3, g_9_4, g_9_5, g_9_6, g_9_7, g_9_8, g_9_9, r_10, w_10, r_11, w_11, r_12, w_12, r_13, w_13, r_14, w_14, r_15, w_15, r_16, w_16, o_17, g_17_0, g_17_1, p_17_1, g_17_2, g_17_3, g_17_4, p_17_4, r_18, w_18, r_19, w_19, r_20, w_20, r_22, w_22, r_23, w_23, r_24, w_24, r_25, w_25, r_26, w_26, r_27, w_27, r_28, w_28, o_29, g_29_0, p_29_0, g_29_1, p_29_1, g_29_2, p_29_2, g_29_3, g_29_4, g_29_5, g_29_6, g_29_7, g_29_8, g_29_9, r_30, w_30, r_31, w_31, r_32, w_32, r_33, w_33, r_34, w_34, r_35, w_35, r_36, w_36, o_37, g_37_0, p_37_0, g_37_1, p_37_1, g_37_2, p_37_2, g_37_3, g_37_4, g_37_5, g_37_6, g_37_7, g_37_8, g_37_9, r_38, w_38, r_39, w_39, r_40, w_40, r_41, w_41, r_42, w_42, r_43, w_43, r_44, w_44, o_45, g_45_0, p_45_0, g_45_1, p_45_1, g_45_2, p_45_2, g_45_3, g_45_4, g_45_5, g_45_6, g_45_7, g_45_8, g_45_9, r_46, w_46, r_47, w_47, r_48, w_48, r_49, w_49, r_50, w_50, r_51, w_51, r_52, w_52, o_53, g_53_0, p_53_0, g_53_1, p_53_1, g_53_2, p_53_2, g_53_3, g_53_4, g_53_5, g_53_6, g_53_7, g_53_8, g_53_9, r_54, w_54, r_55, w_55, r_56, w_56, r_57, w_57, r_58, w_58, r_59, w_59, r_60, w_60, o_61, g_61_0, g_61_1, g_61_2, g_61_3, p_61_3, g_61_4, g_61_5, p_61_5, g_61_6, p_61_6, g_61_7, g_61_8, g_61_9, p_61_9, g_61_10, g_61_11, p_61_11, g_61_12, p_61_12, g_61_13, g_61_14, g_61_15, g_61_16, g_61_17, g_61_18, g_61_19, g_61_20, p_61_20, g_61_21, p_61_21, g_61_22, g_61_23, p_61_23, r_62, w_62, r_63, w_63, r_64, w_64, r_65, w_65, r_66, w_66, r_67, w_67, r_68, w_68, r_69, w_69, r_70, w_70, r_71, w_71, r_72, w_72, r_73, w_73, r_74, w_74, r_75, w_75, r_76, w_76, r_77, w_77, Option.bind_some, k4, if_neg lt1, if_pos le4, e1, q4b, rq, e2, q10, q90, if_true, q04, bindTW, w77]
    · obtain ⟨m3, e3, L3, z3, f3⟩ := c_arrange hn' (m := m2) C2.2.1
      have C3 := CC_lay C2 (by omega) f3 L3 z3
      have cnI : ¬ nI n = nI n' := fun h => cn ((nI_eq (by omega) (by omega)).mp h)
      have q04b : m3.I 0 4 = nI q' := C3.2.2.2.1
      refine W_ok (m1 := m3) (w := (nI q').toInt64) ?_ C3 (upC_tr u2 (upC_fr f3 (fun a h => by unfold cA at h; omega))) hD bq ref
      simp only [f_L_undo, f_X3_undo, o_0, g_0_0, g_0_1, g_0_2, g_0_3, g_0_4, p_0_4, g_0_5, g_0_6, g_0_7, g_0_8, g_0_9, g_0_10, g_0_11, o_1, g_1_0, p_1_0, g_1_1, p_1_1, g_1_2, p_1_2, g_1_3, g_1_4, g_1_5, g_1_6, g_1_7, g_1_8, g_1_9, r_2, w_2, r_3, w_3, r_4, w_4, r_5, w_5, r_6, w_6, r_7, w_7, r_8, w_8, o_9, g_9_0, p_9_0, g_9_1, p_9_1, g_9_2, p_9_2, g_9_3, g_9_4, g_9_5, g_9_6, g_9_7, g_9_8, g_9_9, r_10, w_10, r_11, w_11, r_12, w_12, r_13, w_13, r_14, w_14, r_15, w_15, r_16, w_16, o_17, g_17_0, g_17_1, p_17_1, g_17_2, g_17_3, g_17_4, p_17_4, r_18, w_18, r_19, w_19, r_20, w_20, r_22, w_22, r_23, w_23, r_24, w_24, r_25, w_25, r_26, w_26, r_27, w_27, r_28, w_28, o_29, g_29_0, p_29_0, g_29_1, p_29_1, g_29_2, p_29_2, g_29_3, g_29_4, g_29_5, g_29_6, g_29_7, g_29_8, g_29_9, r_30, w_30, r_31, w_31, r_32, w_32, r_33, w_33, r_34, w_34, r_35, w_35, r_36, w_36, o_37, g_37_0, p_37_0, g_37_1, p_37_1, g_37_2, p_37_2, g_37_3, g_37_4, g_37_5, g_37_6, g_37_7, g_37_8, g_37_9, r_38, w_38, r_39, w_39, r_40, w_40, r_41, w_41, r_42, w_42, r_43, w_43, r_44, w_44, o_45, g_45_0, p_45_0, g_45_1, p_45_1, g_45_2, p_45_2, g_45_3, g_45_4, g_45_5, g_45_6, g_45_7, g_45_8, g_45_9, r_46, w_46, r_47, w_47, r_48, w_48, r_49, w_49, r_50, w_50, r_51, w_51, r_52, w_52, o_53, g_53_0, p_53_0, g_53_1, p_53_1, g_53_2, p_53_2, g_53_3, g_53_4, g_53_5, g_53_6, g_53_7, g_53_8, g_53_9, r_54, w_54, r_55, w_55, r_56, w_56, r_57, w_57, r_58, w_58, r_59, w_59, r_60, w_60, o_61, g_61_0, g_61_1, g_61_2, g_61_3, p_61_3, g_61_4, g_61_5, p_61_5, g_61_6, p_61_6, g_61_7, g_61_8, g_61_9, p_61_9, g_61_10, g_61_11, p_61_11, g_61_12, p_61_12, g_61_13, g_61_14, g_61_15, g_61_16, g_61_17, g_61_18, g_61_19, g_61_20, p_61_20, g_61_21, p_61_21, g_61_22, g_61_23, p_61_23, r_62, w_62, r_63, w_63, r_64, w_64, r_65, w_65, r_66, w_66, r_67, w_67, r_68, w_68, r_69, w_69, r_70, w_70, r_71, w_71, r_72, w_72, r_73, w_73, r_74, w_74, r_75, w_75, r_76, w_76, r_77, w_77, Option.bind_some, k4, if_neg lt1, if_pos le4, e1, q4b, rq, e2, q10, q90, if_neg cnI, e3, q04b, bindTW, w77]
theorem k_type (hi : INV m) (x : Int32) : okW (f_L_type 0 x 77) (f_X4_type 61 x) m := by
  obtain ⟨n, s, M, q, P, PM, tl, tx, hC, hD, b⟩ := INV_out hi
  obtain ⟨k1, k2, k3, k4, k5, k6, k7, k8⟩ := id hC
  have n0 : ¬ (1 : Int32) = 0 := by decide
  have ht := b.2.2.2.1
  have c120 : (120 : Int32).toInt = 120 := by decide
  by_cases c1 : x < 0
  · refine W_thr (k := 1) (by decide) ?_ hC b ⟨0, _, ?_, fl hD 1⟩
    · simp only [f_L_type, f_X3_type, o_0, Option.bind_some, bindTW, if_pos c1, if_true]
    · simp only [f_X4_type, o_61, Option.bind_some, in_n (Or.inl c1), if_true, m_fails, bind2]
  · by_cases c2 : 127 < x
    · refine W_thr (k := 1) (by decide) ?_ hC b ⟨0, _, ?_, fl hD 1⟩
      · simp only [f_L_type, f_X3_type, o_0, Option.bind_some, bindTW, if_neg c1, if_neg (nle_lt c2), if_true]
      · simp only [f_X4_type, o_61, Option.bind_some, in_n (Or.inr c2), if_true, m_fails, bind2]
    · by_cases c3 : tl = 120
      · subst c3
        have e5 : m.I 61 5 = nI 120 := hD.2.2.2.2.1
        refine W_thr (k := 2) (by decide) ?_ hC b ⟨0, _, ?_, fl hD 2⟩
        · simp only [f_L_type, f_X3_type, o_0, g_0_0, g_0_1, g_0_2, g_0_3, g_0_4, g_0_5, g_0_6, g_0_7, g_0_8, g_0_9, g_0_10, g_0_11, o_1, g_1_0, g_1_1, g_1_2, g_1_3, g_1_4, g_1_5, g_1_6, g_1_7, g_1_8, g_1_9, r_2, r_3, r_4, r_5, r_6, r_7, r_8, o_9, g_9_0, g_9_1, g_9_2, g_9_3, g_9_4, g_9_5, g_9_6, g_9_7, g_9_8, g_9_9, r_10, r_11, r_12, r_13, r_14, r_15, r_16, o_17, g_17_0, g_17_1, g_17_2, g_17_3, g_17_4, r_18, r_19, r_20, r_22, r_23, r_24, r_25, r_26, r_27, r_28, o_29, g_29_0, g_29_1, g_29_2, g_29_3, g_29_4, g_29_5, g_29_6, g_29_7, g_29_8, g_29_9, r_30, r_31, r_32, r_33, r_34, r_35, r_36, o_37, g_37_0, g_37_1, g_37_2, g_37_3, g_37_4, g_37_5, g_37_6, g_37_7, g_37_8, g_37_9, r_38, r_39, r_40, r_41, r_42, r_43, r_44, o_45, g_45_0, g_45_1, g_45_2, g_45_3, g_45_4, g_45_5, g_45_6, g_45_7, g_45_8, g_45_9, r_46, r_47, r_48, r_49, r_50, r_51, r_52, o_53, g_53_0, g_53_1, g_53_2, g_53_3, g_53_4, g_53_5, g_53_6, g_53_7, g_53_8, g_53_9, r_54, r_55, r_56, r_57, r_58, r_59, r_60, o_61, g_61_0, g_61_1, g_61_2, g_61_3, g_61_4, g_61_5, g_61_6, g_61_7, g_61_8, g_61_9, g_61_10, g_61_11, g_61_12, g_61_13, g_61_14, g_61_15, g_61_16, g_61_17, g_61_18, g_61_19, g_61_20, g_61_21, g_61_22, g_61_23, r_62, r_63, r_64, r_65, r_66, r_67, r_68, r_69, r_70, r_71, r_72, r_73, r_74, r_75, r_76, r_77, Option.bind_some, bindTW, if_neg c1, if_pos (le_nlt c2), k7, if_neg (show ¬ nI 120 < (120 : Int32) by decide), if_true, if_neg (show ¬ (2 : Nat) = 0 by decide)]
        · simp only [f_X4_type, o_0, g_0_0, g_0_1, g_0_2, g_0_3, g_0_4, g_0_5, g_0_6, g_0_7, g_0_8, g_0_9, g_0_10, g_0_11, o_1, g_1_0, g_1_1, g_1_2, g_1_3, g_1_4, g_1_5, g_1_6, g_1_7, g_1_8, g_1_9, r_2, r_3, r_4, r_5, r_6, r_7, r_8, o_9, g_9_0, g_9_1, g_9_2, g_9_3, g_9_4, g_9_5, g_9_6, g_9_7, g_9_8, g_9_9, r_10, r_11, r_12, r_13, r_14, r_15, r_16, o_17, g_17_0, g_17_1, g_17_2, g_17_3, g_17_4, r_18, r_19, r_20, r_22, r_23, r_24, r_25, r_26, r_27, r_28, o_29, g_29_0, g_29_1, g_29_2, g_29_3, g_29_4, g_29_5, g_29_6, g_29_7, g_29_8, g_29_9, r_30, r_31, r_32, r_33, r_34, r_35, r_36, o_37, g_37_0, g_37_1, g_37_2, g_37_3, g_37_4, g_37_5, g_37_6, g_37_7, g_37_8, g_37_9, r_38, r_39, r_40, r_41, r_42, r_43, r_44, o_45, g_45_0, g_45_1, g_45_2, g_45_3, g_45_4, g_45_5, g_45_6, g_45_7, g_45_8, g_45_9, r_46, r_47, r_48, r_49, r_50, r_51, r_52, o_53, g_53_0, g_53_1, g_53_2, g_53_3, g_53_4, g_53_5, g_53_6, g_53_7, g_53_8, g_53_9, r_54, r_55, r_56, r_57, r_58, r_59, r_60, o_61, g_61_0, g_61_1, g_61_2, g_61_3, g_61_4, g_61_5, g_61_6, g_61_7, g_61_8, g_61_9, g_61_10, g_61_11, g_61_12, g_61_13, g_61_14, g_61_15, g_61_16, g_61_17, g_61_18, g_61_19, g_61_20, g_61_21, g_61_22, g_61_23, r_62, r_63, r_64, r_65, r_66, r_67, r_68, r_69, r_70, r_71, r_72, r_73, r_74, r_75, r_76, r_77, Option.bind_some, in_y c1 c2, if_neg n0, e5, if_pos (show nI 120 = (120 : Int32) from rfl), m_fails, bind2]
      · have lt : nI tl < (120 : Int32) := by
          rw [Int32.lt_iff_toInt_lt, nI_toInt (by omega)]
          omega
        have ne : ¬ nI tl = (120 : Int32) := fun h => c3 ((nI_eq (b := 120) (by omega) (by decide)).mp h)
        have b2 : BB n s M q P PM (tl + 1) (upd tx tl x) := ⟨b.1, b.2.1, b.2.2.1, by omega, fun k hk => by
          rw [upd_g]
          by_cases ck : k = tl
          · rw [if_pos ck]
            exact ⟨le_nlt c1, le_nlt c2⟩
          · rw [if_neg ck]
            exact b.2.2.2.2 k (by omega)⟩
        obtain ⟨m1, em1⟩ : ∃ m1, m1 = (m.sI 18 tl x).sI 17 1 (nI (tl + 1)) := ⟨_, rfl⟩
        have f1 : Fr (fun a => a = 17 ∨ a = 18) m m1 := by rw [em1]; exact Fr_sI (Fr_sI (Fr_rf _ m) (Or.inr rfl)) (Or.inl rfl)
        have C1 : CC n s M q P PM (tl + 1) (upd tx tl x) m1 := by
          refine ⟨LC_of k1 (fun a _ hb => f1.1 a (by omega)), LZ_of k2 (f1.1 4 (by omega)).1, RS_of k3 (fun a ha => f1.1 a (by unfold cS at ha; omega)), by rw [(f1.1 0 (by omega)).1]; exact k4, by rw [f1.2]; exact k5, fun i hi => ?_, ?_, fun k hk => ?_⟩
          · rw [f1.2]
            exact RS_of (k6 i hi) (fun a ha => f1.1 a (by have := vS_lt (k5.1 i (by have := b.2.1; omega)) ha; omega))
          · rw [em1, sI_at, if_pos rfl]
          · rw [em1, sI_of _ _ _ _ (by omega), sI_at, upd_g]
            by_cases ck : k = tl
            · rw [if_pos ck, if_pos ck]
            · rw [if_neg ck, if_neg ck]
              exact k8 k (by omega)
        refine W_ok (m1 := m1) (w := (nI (tl + 1)).toInt64) ?_ C1 (upC_fr f1 (fun a h => by omega)) hD b2 (fun m3 hD3 => ?_)
        · have q1 : (m.sI 18 tl x).I 17 1 = nI tl := k7
          have q2 : m1.I 17 1 = nI (tl + 1) := C1.2.2.2.2.2.2.1
          simp (disch := omega) only [f_L_type, f_X3_type, o_0, g_0_0, g_0_1, g_0_2, g_0_3, g_0_4, p_0_4, g_0_5, g_0_6, g_0_7, g_0_8, g_0_9, g_0_10, g_0_11, o_1, g_1_0, p_1_0, g_1_1, p_1_1, g_1_2, p_1_2, g_1_3, g_1_4, g_1_5, g_1_6, g_1_7, g_1_8, g_1_9, r_2, w_2, r_3, w_3, r_4, w_4, r_5, w_5, r_6, w_6, r_7, w_7, r_8, w_8, o_9, g_9_0, p_9_0, g_9_1, p_9_1, g_9_2, p_9_2, g_9_3, g_9_4, g_9_5, g_9_6, g_9_7, g_9_8, g_9_9, r_10, w_10, r_11, w_11, r_12, w_12, r_13, w_13, r_14, w_14, r_15, w_15, r_16, w_16, o_17, g_17_0, g_17_1, p_17_1, g_17_2, g_17_3, g_17_4, p_17_4, r_18, w_18, r_19, w_19, r_20, w_20, r_22, w_22, r_23, w_23, r_24, w_24, r_25, w_25, r_26, w_26, r_27, w_27, r_28, w_28, o_29, g_29_0, p_29_0, g_29_1, p_29_1, g_29_2, p_29_2, g_29_3, g_29_4, g_29_5, g_29_6, g_29_7, g_29_8, g_29_9, r_30, w_30, r_31, w_31, r_32, w_32, r_33, w_33, r_34, w_34, r_35, w_35, r_36, w_36, o_37, g_37_0, p_37_0, g_37_1, p_37_1, g_37_2, p_37_2, g_37_3, g_37_4, g_37_5, g_37_6, g_37_7, g_37_8, g_37_9, r_38, w_38, r_39, w_39, r_40, w_40, r_41, w_41, r_42, w_42, r_43, w_43, r_44, w_44, o_45, g_45_0, p_45_0, g_45_1, p_45_1, g_45_2, p_45_2, g_45_3, g_45_4, g_45_5, g_45_6, g_45_7, g_45_8, g_45_9, r_46, w_46, r_47, w_47, r_48, w_48, r_49, w_49, r_50, w_50, r_51, w_51, r_52, w_52, o_53, g_53_0, p_53_0, g_53_1, p_53_1, g_53_2, p_53_2, g_53_3, g_53_4, g_53_5, g_53_6, g_53_7, g_53_8, g_53_9, r_54, w_54, r_55, w_55, r_56, w_56, r_57, w_57, r_58, w_58, r_59, w_59, r_60, w_60, o_61, g_61_0, g_61_1, g_61_2, g_61_3, p_61_3, g_61_4, g_61_5, p_61_5, g_61_6, p_61_6, g_61_7, g_61_8, g_61_9, p_61_9, g_61_10, g_61_11, p_61_11, g_61_12, p_61_12, g_61_13, g_61_14, g_61_15, g_61_16, g_61_17, g_61_18, g_61_19, g_61_20, p_61_20, g_61_21, p_61_21, g_61_22, g_61_23, p_61_23, r_62, w_62, r_63, w_63, r_64, w_64, r_65, w_65, r_66, w_66, r_67, w_67, r_68, w_68, r_69, w_69, r_70, w_70, r_71, w_71, r_72, w_72, r_73, w_73, r_74, w_74, r_75, w_75, r_76, w_76, r_77, w_77, Option.bind_some, bindTW, if_neg c1, if_pos (le_nlt c2), k7, if_pos lt, q1, add_1]
          rw [← em1]
          simp only [o_0, g_0_0, g_0_1, g_0_2, g_0_3, g_0_4, g_0_5, g_0_6, g_0_7, g_0_8, g_0_9, g_0_10, g_0_11, o_1, g_1_0, g_1_1, g_1_2, g_1_3, g_1_4, g_1_5, g_1_6, g_1_7, g_1_8, g_1_9, r_2, r_3, r_4, r_5, r_6, r_7, r_8, o_9, g_9_0, g_9_1, g_9_2, g_9_3, g_9_4, g_9_5, g_9_6, g_9_7, g_9_8, g_9_9, r_10, r_11, r_12, r_13, r_14, r_15, r_16, o_17, g_17_0, g_17_1, g_17_2, g_17_3, g_17_4, r_18, r_19, r_20, r_22, r_23, r_24, r_25, r_26, r_27, r_28, o_29, g_29_0, g_29_1, g_29_2, g_29_3, g_29_4, g_29_5, g_29_6, g_29_7, g_29_8, g_29_9, r_30, r_31, r_32, r_33, r_34, r_35, r_36, o_37, g_37_0, g_37_1, g_37_2, g_37_3, g_37_4, g_37_5, g_37_6, g_37_7, g_37_8, g_37_9, r_38, r_39, r_40, r_41, r_42, r_43, r_44, o_45, g_45_0, g_45_1, g_45_2, g_45_3, g_45_4, g_45_5, g_45_6, g_45_7, g_45_8, g_45_9, r_46, r_47, r_48, r_49, r_50, r_51, r_52, o_53, g_53_0, g_53_1, g_53_2, g_53_3, g_53_4, g_53_5, g_53_6, g_53_7, g_53_8, g_53_9, r_54, r_55, r_56, r_57, r_58, r_59, r_60, o_61, g_61_0, g_61_1, g_61_2, g_61_3, g_61_4, g_61_5, g_61_6, g_61_7, g_61_8, g_61_9, g_61_10, g_61_11, g_61_12, g_61_13, g_61_14, g_61_15, g_61_16, g_61_17, g_61_18, g_61_19, g_61_20, g_61_21, g_61_22, g_61_23, r_62, r_63, r_64, r_65, r_66, r_67, r_68, r_69, r_70, r_71, r_72, r_73, r_74, r_75, r_76, r_77, Option.bind_some, q2, w77]
        · obtain ⟨j1, j2, j3, j4, j5, j6⟩ := id hD3
          obtain ⟨m4, em4⟩ : ∃ m4, m4 = (m3.sI 65 tl x).sI 61 5 (nI (tl + 1)) := ⟨_, rfl⟩
          have D4 : DD n s q P (tl + 1) (upd tx tl x) m4 := by
            rw [em4]
            refine ⟨LM_fr j1 ?_ ?_ rfl rfl rfl, ?_, ?_, ?_, ?_, fun k hk => ?_⟩
            · rw [sI_at, if_neg (by omega), sI_I, if_neg (by omega)]
            · rw [sI_at, if_neg (by omega), sI_I, if_neg (by omega)]
            · rw [sI_I, if_neg (by omega), sI_I, if_neg (by omega)]
              exact j2
            · rw [sI_at, if_neg (by omega), sI_I, if_neg (by omega)]
              exact j3
            · rw [sI_I, if_neg (by omega), sI_I, if_neg (by omega)]
              exact j4
            · rw [sI_at, if_pos rfl]
            · rw [sI_of _ _ _ _ (by omega), sI_at, upd_g]
              by_cases ck : k = tl
              · rw [if_pos ck, if_pos ck]
              · rw [if_neg ck, if_neg ck]
                exact j6 k (by omega)
          obtain ⟨d1, d2, d3⟩ := fl D4 0
          refine ⟨nI (tl + 1), _, ?_, rfl, d1, d2, upM_tr (by rw [em4]; exact upM_fr (c := fun a => a = 61 ∨ a = 65) (Fr_sI (Fr_sI (Fr_rf _ m3) (Or.inr rfl)) (Or.inl rfl)) (fun a h => by omega)) d3⟩
          have q1 : (m3.sI 65 tl x).I 61 5 = nI tl := j5
          have q2 : m4.I 61 5 = nI (tl + 1) := D4.2.2.2.2.1
          have j5 : m3.I 61 5 = nI tl := j5
          simp (disch := omega) only [f_X4_type, o_0, g_0_0, g_0_1, g_0_2, g_0_3, g_0_4, p_0_4, g_0_5, g_0_6, g_0_7, g_0_8, g_0_9, g_0_10, g_0_11, o_1, g_1_0, p_1_0, g_1_1, p_1_1, g_1_2, p_1_2, g_1_3, g_1_4, g_1_5, g_1_6, g_1_7, g_1_8, g_1_9, r_2, w_2, r_3, w_3, r_4, w_4, r_5, w_5, r_6, w_6, r_7, w_7, r_8, w_8, o_9, g_9_0, p_9_0, g_9_1, p_9_1, g_9_2, p_9_2, g_9_3, g_9_4, g_9_5, g_9_6, g_9_7, g_9_8, g_9_9, r_10, w_10, r_11, w_11, r_12, w_12, r_13, w_13, r_14, w_14, r_15, w_15, r_16, w_16, o_17, g_17_0, g_17_1, p_17_1, g_17_2, g_17_3, g_17_4, p_17_4, r_18, w_18, r_19, w_19, r_20, w_20, r_22, w_22, r_23, w_23, r_24, w_24, r_25, w_25, r_26, w_26, r_27, w_27, r_28, w_28, o_29, g_29_0, p_29_0, g_29_1, p_29_1, g_29_2, p_29_2, g_29_3, g_29_4, g_29_5, g_29_6, g_29_7, g_29_8, g_29_9, r_30, w_30, r_31, w_31, r_32, w_32, r_33, w_33, r_34, w_34, r_35, w_35, r_36, w_36, o_37, g_37_0, p_37_0, g_37_1, p_37_1, g_37_2, p_37_2, g_37_3, g_37_4, g_37_5, g_37_6, g_37_7, g_37_8, g_37_9, r_38, w_38, r_39, w_39, r_40, w_40, r_41, w_41, r_42, w_42, r_43, w_43, r_44, w_44, o_45, g_45_0, p_45_0, g_45_1, p_45_1, g_45_2, p_45_2, g_45_3, g_45_4, g_45_5, g_45_6, g_45_7, g_45_8, g_45_9, r_46, w_46, r_47, w_47, r_48, w_48, r_49, w_49, r_50, w_50, r_51, w_51, r_52, w_52, o_53, g_53_0, p_53_0, g_53_1, p_53_1, g_53_2, p_53_2, g_53_3, g_53_4, g_53_5, g_53_6, g_53_7, g_53_8, g_53_9, r_54, w_54, r_55, w_55, r_56, w_56, r_57, w_57, r_58, w_58, r_59, w_59, r_60, w_60, o_61, g_61_0, g_61_1, g_61_2, g_61_3, p_61_3, g_61_4, g_61_5, p_61_5, g_61_6, p_61_6, g_61_7, g_61_8, g_61_9, p_61_9, g_61_10, g_61_11, p_61_11, g_61_12, p_61_12, g_61_13, g_61_14, g_61_15, g_61_16, g_61_17, g_61_18, g_61_19, g_61_20, p_61_20, g_61_21, p_61_21, g_61_22, g_61_23, p_61_23, r_62, w_62, r_63, w_63, r_64, w_64, r_65, w_65, r_66, w_66, r_67, w_67, r_68, w_68, r_69, w_69, r_70, w_70, r_71, w_71, r_72, w_72, r_73, w_73, r_74, w_74, r_75, w_75, r_76, w_76, r_77, w_77, Option.bind_some, in_y c1 c2, if_neg n0, j5, if_neg ne, q1, add_1]
          rw [← em4]
          simp only [o_0, g_0_0, g_0_1, g_0_2, g_0_3, g_0_4, g_0_5, g_0_6, g_0_7, g_0_8, g_0_9, g_0_10, g_0_11, o_1, g_1_0, g_1_1, g_1_2, g_1_3, g_1_4, g_1_5, g_1_6, g_1_7, g_1_8, g_1_9, r_2, r_3, r_4, r_5, r_6, r_7, r_8, o_9, g_9_0, g_9_1, g_9_2, g_9_3, g_9_4, g_9_5, g_9_6, g_9_7, g_9_8, g_9_9, r_10, r_11, r_12, r_13, r_14, r_15, r_16, o_17, g_17_0, g_17_1, g_17_2, g_17_3, g_17_4, r_18, r_19, r_20, r_22, r_23, r_24, r_25, r_26, r_27, r_28, o_29, g_29_0, g_29_1, g_29_2, g_29_3, g_29_4, g_29_5, g_29_6, g_29_7, g_29_8, g_29_9, r_30, r_31, r_32, r_33, r_34, r_35, r_36, o_37, g_37_0, g_37_1, g_37_2, g_37_3, g_37_4, g_37_5, g_37_6, g_37_7, g_37_8, g_37_9, r_38, r_39, r_40, r_41, r_42, r_43, r_44, o_45, g_45_0, g_45_1, g_45_2, g_45_3, g_45_4, g_45_5, g_45_6, g_45_7, g_45_8, g_45_9, r_46, r_47, r_48, r_49, r_50, r_51, r_52, o_53, g_53_0, g_53_1, g_53_2, g_53_3, g_53_4, g_53_5, g_53_6, g_53_7, g_53_8, g_53_9, r_54, r_55, r_56, r_57, r_58, r_59, r_60, o_61, g_61_0, g_61_1, g_61_2, g_61_3, g_61_4, g_61_5, g_61_6, g_61_7, g_61_8, g_61_9, g_61_10, g_61_11, g_61_12, g_61_13, g_61_14, g_61_15, g_61_16, g_61_17, g_61_18, g_61_19, g_61_20, g_61_21, g_61_22, g_61_23, r_62, r_63, r_64, r_65, r_66, r_67, r_68, r_69, r_70, r_71, r_72, r_73, r_74, r_75, r_76, r_77, Option.bind_some, q2, m_tells, bind2]
theorem k_clear (hi : INV m) : okN (f_X3_clearScript 0) (f_X4_clearScript 61) m := by
  obtain ⟨n, s, M, q, P, PM, tl, tx, hC, hD, b⟩ := INV_out hi
  obtain ⟨k1, k2, k3, k4, k5, k6, k7, k8⟩ := id hC
  have b2 : BB n s M q P PM 0 tx := ⟨b.1, b.2.1, b.2.2.1, by omega, fun k hk => absurd hk (Nat.not_lt_zero k)⟩
  have f1 : Fr (cC 17) m (m.sI 17 1 0) := Fr_sI (Fr_rf _ m) rfl
  have C1 : CC n s M q P PM 0 tx (m.sI 17 1 0) := by
    refine ⟨LC_of k1 (fun a _ hb => f1.1 a (by unfold cC; omega)), LZ_of k2 (f1.1 4 (by unfold cC; omega)).1, RS_of k3 (fun a ha => f1.1 a (by unfold cS at ha; unfold cC; omega)), by rw [(f1.1 0 (by unfold cC; omega)).1]; exact k4, k5, fun i hi => ?_, by rw [sI_at, if_pos rfl]; rfl, fun k hk => absurd hk (Nat.not_lt_zero k)⟩
    exact RS_of (k6 i hi) (fun a ha => f1.1 a (by have := vS_lt (k5.1 i (by have := b.2.1; omega)) ha; unfold cC; omega))
  refine N_ok (v := nI tl) (m1 := m.sI 17 1 0) ?_ C1 (upC_fr f1 (fun a h => by unfold cC at h; omega)) hD b2 (fun m3 hD3 => ?_)
  · simp only [f_X3_clearScript, o_0, g_0_0, g_0_1, g_0_2, g_0_3, g_0_4, p_0_4, g_0_5, g_0_6, g_0_7, g_0_8, g_0_9, g_0_10, g_0_11, o_1, g_1_0, p_1_0, g_1_1, p_1_1, g_1_2, p_1_2, g_1_3, g_1_4, g_1_5, g_1_6, g_1_7, g_1_8, g_1_9, r_2, w_2, r_3, w_3, r_4, w_4, r_5, w_5, r_6, w_6, r_7, w_7, r_8, w_8, o_9, g_9_0, p_9_0, g_9_1, p_9_1, g_9_2, p_9_2, g_9_3, g_9_4, g_9_5, g_9_6, g_9_7, g_9_8, g_9_9, r_10, w_10, r_11, w_11, r_12, w_12, r_13, w_13, r_14, w_14, r_15, w_15, r_16, w_16, o_17, g_17_0, g_17_1, p_17_1, g_17_2, g_17_3, g_17_4, p_17_4, r_18, w_18, r_19, w_19, r_20, w_20, r_22, w_22, r_23, w_23, r_24, w_24, r_25, w_25, r_26, w_26, r_27, w_27, r_28, w_28, o_29, g_29_0, p_29_0, g_29_1, p_29_1, g_29_2, p_29_2, g_29_3, g_29_4, g_29_5, g_29_6, g_29_7, g_29_8, g_29_9, r_30, w_30, r_31, w_31, r_32, w_32, r_33, w_33, r_34, w_34, r_35, w_35, r_36, w_36, o_37, g_37_0, p_37_0, g_37_1, p_37_1, g_37_2, p_37_2, g_37_3, g_37_4, g_37_5, g_37_6, g_37_7, g_37_8, g_37_9, r_38, w_38, r_39, w_39, r_40, w_40, r_41, w_41, r_42, w_42, r_43, w_43, r_44, w_44, o_45, g_45_0, p_45_0, g_45_1, p_45_1, g_45_2, p_45_2, g_45_3, g_45_4, g_45_5, g_45_6, g_45_7, g_45_8, g_45_9, r_46, w_46, r_47, w_47, r_48, w_48, r_49, w_49, r_50, w_50, r_51, w_51, r_52, w_52, o_53, g_53_0, p_53_0, g_53_1, p_53_1, g_53_2, p_53_2, g_53_3, g_53_4, g_53_5, g_53_6, g_53_7, g_53_8, g_53_9, r_54, w_54, r_55, w_55, r_56, w_56, r_57, w_57, r_58, w_58, r_59, w_59, r_60, w_60, o_61, g_61_0, g_61_1, g_61_2, g_61_3, p_61_3, g_61_4, g_61_5, p_61_5, g_61_6, p_61_6, g_61_7, g_61_8, g_61_9, p_61_9, g_61_10, g_61_11, p_61_11, g_61_12, p_61_12, g_61_13, g_61_14, g_61_15, g_61_16, g_61_17, g_61_18, g_61_19, g_61_20, p_61_20, g_61_21, p_61_21, g_61_22, g_61_23, p_61_23, r_62, w_62, r_63, w_63, r_64, w_64, r_65, w_65, r_66, w_66, r_67, w_67, r_68, w_68, r_69, w_69, r_70, w_70, r_71, w_71, r_72, w_72, r_73, w_73, r_74, w_74, r_75, w_75, r_76, w_76, r_77, w_77, Option.bind_some, k7]
  · obtain ⟨j1, j2, j3, j4, j5, j6⟩ := id hD3
    have D4 : DD n s q P 0 tx (m3.sI 61 5 0) := by
      refine ⟨LM_fr j1 ?_ ?_ rfl rfl rfl, j2, ?_, j4, ?_, fun k hk => absurd hk (Nat.not_lt_zero k)⟩
      · rw [sI_at, if_neg (by omega)]
      · rw [sI_at, if_neg (by omega)]
      · rw [sI_at, if_neg (by omega)]
        exact j3
      · rw [sI_at, if_pos rfl]
        rfl
    obtain ⟨d1, d2, d3⟩ := fl D4 0
    refine ⟨_, ?_, d1, upM_tr (s61 m3 5 0) d3⟩
    have j5 : m3.I 61 5 = nI tl := j5
    simp only [f_X4_clearScript, o_0, g_0_0, g_0_1, g_0_2, g_0_3, g_0_4, p_0_4, g_0_5, g_0_6, g_0_7, g_0_8, g_0_9, g_0_10, g_0_11, o_1, g_1_0, p_1_0, g_1_1, p_1_1, g_1_2, p_1_2, g_1_3, g_1_4, g_1_5, g_1_6, g_1_7, g_1_8, g_1_9, r_2, w_2, r_3, w_3, r_4, w_4, r_5, w_5, r_6, w_6, r_7, w_7, r_8, w_8, o_9, g_9_0, p_9_0, g_9_1, p_9_1, g_9_2, p_9_2, g_9_3, g_9_4, g_9_5, g_9_6, g_9_7, g_9_8, g_9_9, r_10, w_10, r_11, w_11, r_12, w_12, r_13, w_13, r_14, w_14, r_15, w_15, r_16, w_16, o_17, g_17_0, g_17_1, p_17_1, g_17_2, g_17_3, g_17_4, p_17_4, r_18, w_18, r_19, w_19, r_20, w_20, r_22, w_22, r_23, w_23, r_24, w_24, r_25, w_25, r_26, w_26, r_27, w_27, r_28, w_28, o_29, g_29_0, p_29_0, g_29_1, p_29_1, g_29_2, p_29_2, g_29_3, g_29_4, g_29_5, g_29_6, g_29_7, g_29_8, g_29_9, r_30, w_30, r_31, w_31, r_32, w_32, r_33, w_33, r_34, w_34, r_35, w_35, r_36, w_36, o_37, g_37_0, p_37_0, g_37_1, p_37_1, g_37_2, p_37_2, g_37_3, g_37_4, g_37_5, g_37_6, g_37_7, g_37_8, g_37_9, r_38, w_38, r_39, w_39, r_40, w_40, r_41, w_41, r_42, w_42, r_43, w_43, r_44, w_44, o_45, g_45_0, p_45_0, g_45_1, p_45_1, g_45_2, p_45_2, g_45_3, g_45_4, g_45_5, g_45_6, g_45_7, g_45_8, g_45_9, r_46, w_46, r_47, w_47, r_48, w_48, r_49, w_49, r_50, w_50, r_51, w_51, r_52, w_52, o_53, g_53_0, p_53_0, g_53_1, p_53_1, g_53_2, p_53_2, g_53_3, g_53_4, g_53_5, g_53_6, g_53_7, g_53_8, g_53_9, r_54, w_54, r_55, w_55, r_56, w_56, r_57, w_57, r_58, w_58, r_59, w_59, r_60, w_60, o_61, g_61_0, g_61_1, g_61_2, g_61_3, p_61_3, g_61_4, g_61_5, p_61_5, g_61_6, p_61_6, g_61_7, g_61_8, g_61_9, p_61_9, g_61_10, g_61_11, p_61_11, g_61_12, p_61_12, g_61_13, g_61_14, g_61_15, g_61_16, g_61_17, g_61_18, g_61_19, g_61_20, p_61_20, g_61_21, p_61_21, g_61_22, g_61_23, p_61_23, r_62, w_62, r_63, w_63, r_64, w_64, r_65, w_65, r_66, w_66, r_67, w_67, r_68, w_68, r_69, w_69, r_70, w_70, r_71, w_71, r_72, w_72, r_73, w_73, r_74, w_74, r_75, w_75, r_76, w_76, r_77, w_77, Option.bind_some, j5, m_tells, bind2]
end Undo
