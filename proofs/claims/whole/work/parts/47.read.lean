/-! read, mismatches -/
theorem rX_g {n t k : Nat} {v : Int32} {s : Nat → Int32} (hT : nT n ≤ 56) (ht : t < nT n) (hk : 227 ≤ k) : gvR (nT n) t v s k = s k := by
  unfold gvR
  split
  · rfl
  · rw [gvn_g, if_neg (by omega), if_neg (by omega), if_neg (by omega), upd_g, if_neg (by omega)]
    split
    · rfl
    · unfold fgt
      rw [upd_g, if_neg (by omega)]
      exact frg_o (by omega)
def rdR (n : Nat) (s : Nat → Int32) : Nat → Nat → Int32
  | 0 => s
  | k + 1 => if sAt n (rX s) (rY s) k = -100 then rdR n s k else gvR (nT n) k (sAt n (rX s) (rY s) k) (rdR n s k)
def rdM (n : Nat) (s : Nat → Int32) (M : Nat → Int64) : Nat → Nat → Int64
  | 0 => M
  | k + 1 => if sAt n (rX s) (rY s) k = -100 then rdM n s M k else gvM k (sAt n (rX s) (rY s) k) (rdR n s k) (rdM n s M k)
theorem rdR_s (n : Nat) (s : Nat → Int32) (k : Nat) : rdR n s (k + 1) = if sAt n (rX s) (rY s) k = -100 then rdR n s k else gvR (nT n) k (sAt n (rX s) (rY s) k) (rdR n s k) := rfl
theorem rdM_s (n : Nat) (s : Nat → Int32) (M : Nat → Int64) (k : Nat) : rdM n s M (k + 1) = if sAt n (rX s) (rY s) k = -100 then rdM n s M k else gvM k (sAt n (rX s) (rY s) k) (rdR n s k) (rdM n s M k) := rfl
theorem sAt_ok (n : Nat) (X Y : Nat → Int32) (t : Nat) (h : ¬ sAt n X Y t = -100) : ok3 (sAt n X Y t) := by
  unfold sAt at *
  by_cases c0 : X (cor n t 0) = -100
  · rw [if_pos c0] at h
    exact absurd rfl h
  · by_cases c1 : X (cor n t 1) = -100
    · rw [if_neg c0, if_pos c1] at h
      exact absurd rfl h
    · by_cases c2 : X (cor n t 2) = -100
      · rw [if_neg c0, if_neg c1, if_pos c2] at h
        exact absurd rfl h
      · rw [if_neg c0, if_neg c1, if_neg c2]
        exact sg3_ok _
theorem rd_ok {n : Nat} {s : Nat → Int32} {M : Nat → Int64} (g : GG n s M) : ∀ k, k ≤ nT n → GG n (rdR n s k) (rdM n s M k) ∧ ∀ j, 227 ≤ j → rdR n s k j = s j := by
  intro k
  induction k with
  | zero => intro _; exact ⟨g, fun _ _ => rfl⟩
  | succ k ih =>
    intro hk
    obtain ⟨g1, h1⟩ := ih (by omega)
    rw [rdR_s, rdM_s]
    by_cases c : sAt n (rX s) (rY s) k = -100
    · rw [if_pos c, if_pos c]
      exact ⟨g1, h1⟩
    · rw [if_neg c, if_neg c]
      exact ⟨GG_give g1 (by omega) (sAt_ok _ _ _ _ c), fun j hj => by rw [rX_g (nT_le g.1) (by omega) hj, h1 j hj]⟩
theorem rXY {s s1 : Nat → Int32} (h : ∀ j, 227 ≤ j → s1 j = s j) : rX s1 = rX s ∧ rY s1 = rY s := ⟨funext fun p => h _ (by omega), funext fun p => h _ (by omega)⟩
def cAt (n : Nat) (X Y : Nat → Int32) (k : Nat) : Nat := cntN (fun t => ¬ sAt n X Y t = -100) k
theorem cAt_s (n : Nat) (X Y : Nat → Int32) (k : Nat) : cAt n X Y (k + 1) = if ¬ sAt n X Y k = -100 then cAt n X Y k + 1 else cAt n X Y k := rfl
theorem c_read {n : Nat} {m : Mem} {s : Nat → Int32} {M : Nat → Int64} (g : GG n s M) (hL : LC n m) (hs : RS 9 m s M) : ∃ m1, l_X3_read_8 0 FU 0 0 (HH m) = some (nI (cAt n (rX s) (rY s) (nT n)), HH m1) ∧ RS 9 m1 (rdR n s (nT n)) (rdM n s M (nT n)) ∧ Fr (cS 9) m m1 := by
  have hn := g.1
  have h8 := hn.2
  have hT := nT_le hn
  have key : ∃ b, l_X3_read_8 0 FU (nI 0) (nI 0) (HH m) = some b ∧ ∃ m1, b = (nI (cAt n (rX s) (rY s) (nT n)), HH m1) ∧ RS 9 m1 (rdR n s (nT n)) (rdM n s M (nT n)) ∧ Fr (cS 9) m m1 := by
    refine loopR (fun fuel (a : Int32 × Int32 × Hp) => l_X3_read_8 0 fuel a.1 a.2.1 a.2.2) (fun k a => ∃ m1, a = (nI (cAt n (rX s) (rY s) k), nI k, HH m1) ∧ RS 9 m1 (rdR n s k) (rdM n s M k) ∧ Fr (cS 9) m m1) _ (nT n) ?_ ?_ (nT n) 0 (nI 0, nI 0, HH m) FU (by omega) (FUx (by omega)) ⟨m, rfl, hs, Fr_rf _ m⟩
    · rintro k a fuel hk ⟨m1, rfl, hr, hf⟩
      have hL1 := LC_9 hL hf
      obtain ⟨g1, hi⟩ := rd_ok g k (by omega)
      have e15 : ∀ p, p < n → aI (HH m1) 15 (nI p) = some (rX s p) := fun p hp => by
        rw [r_15 m1 (by omega), show m1.I 15 p = _ from (hr.2.2.2.2 p (by omega)).1, hi _ (by omega)]
        rfl
      have e16 : ∀ p, p < n → aI (HH m1) 16 (nI p) = some (rY s p) := fun p hp => by
        rw [r_16 m1 (by omega), show m1.I 16 p = _ from (hr.2.2.2.2 p (by omega)).2, hi _ (by omega)]
        rfl
      have ea := cl_at hn hL1 e15 e16 hk
      by_cases c : sAt n (rX s) (rY s) k = -100
      · refine Or.inl ⟨(nI (cAt n (rX s) (rY s) (k + 1)), nI (k + 1), HH m1), ?_, m1, rfl, ?_, hf⟩
        · simp (disch := omega) only [l_X3_read_8, o_0, g_0_0, g_0_1, g_0_2, g_0_3, g_0_4, g_0_5, g_0_6, g_0_7, g_0_8, g_0_9, g_0_10, g_0_11, o_1, g_1_0, g_1_1, g_1_2, g_1_3, g_1_4, g_1_5, g_1_6, g_1_7, g_1_8, g_1_9, r_2, r_3, r_4, r_5, r_6, r_7, r_8, o_9, g_9_0, g_9_1, g_9_2, g_9_3, g_9_4, g_9_5, g_9_6, g_9_7, g_9_8, g_9_9, r_10, r_11, r_12, r_13, r_14, r_15, r_16, o_17, g_17_0, g_17_1, g_17_2, g_17_3, g_17_4, r_18, r_19, r_20, r_22, r_23, r_24, r_25, r_26, r_27, r_28, o_29, g_29_0, g_29_1, g_29_2, g_29_3, g_29_4, g_29_5, g_29_6, g_29_7, g_29_8, g_29_9, r_30, r_31, r_32, r_33, r_34, r_35, r_36, o_37, g_37_0, g_37_1, g_37_2, g_37_3, g_37_4, g_37_5, g_37_6, g_37_7, g_37_8, g_37_9, r_38, r_39, r_40, r_41, r_42, r_43, r_44, o_45, g_45_0, g_45_1, g_45_2, g_45_3, g_45_4, g_45_5, g_45_6, g_45_7, g_45_8, g_45_9, r_46, r_47, r_48, r_49, r_50, r_51, r_52, o_53, g_53_0, g_53_1, g_53_2, g_53_3, g_53_4, g_53_5, g_53_6, g_53_7, g_53_8, g_53_9, r_54, r_55, r_56, r_57, r_58, r_59, r_60, o_61, g_61_0, g_61_1, g_61_2, g_61_3, g_61_4, g_61_5, g_61_6, g_61_7, g_61_8, g_61_9, g_61_10, g_61_11, g_61_12, g_61_13, g_61_14, g_61_15, g_61_16, g_61_17, g_61_18, g_61_19, g_61_20, g_61_21, g_61_22, g_61_23, r_62, r_63, r_64, r_65, r_66, r_67, r_68, r_69, r_70, r_71, r_72, r_73, r_74, r_75, r_76, r_77, Option.bind_some, leN, hL1.2.1, if_neg (show ¬ nT n ≤ k by omega), ea, if_pos c, bind2, add1]
          rw [cAt_s, if_neg (fun h => h c)]
        · rw [rdR_s, rdM_s, if_pos c, if_pos c]
          exact hr
      · obtain ⟨m2, e2, r2, f2⟩ := c_give hr hT (GG_noD g1) hk (sAt n (rX s) (rY s) k)
        refine Or.inl ⟨(nI (cAt n (rX s) (rY s) (k + 1)), nI (k + 1), HH m2), ?_, m2, rfl, ?_, Fr_tr hf f2⟩
        · simp (disch := omega) only [l_X3_read_8, o_0, g_0_0, g_0_1, g_0_2, g_0_3, g_0_4, g_0_5, g_0_6, g_0_7, g_0_8, g_0_9, g_0_10, g_0_11, o_1, g_1_0, g_1_1, g_1_2, g_1_3, g_1_4, g_1_5, g_1_6, g_1_7, g_1_8, g_1_9, r_2, r_3, r_4, r_5, r_6, r_7, r_8, o_9, g_9_0, g_9_1, g_9_2, g_9_3, g_9_4, g_9_5, g_9_6, g_9_7, g_9_8, g_9_9, r_10, r_11, r_12, r_13, r_14, r_15, r_16, o_17, g_17_0, g_17_1, g_17_2, g_17_3, g_17_4, r_18, r_19, r_20, r_22, r_23, r_24, r_25, r_26, r_27, r_28, o_29, g_29_0, g_29_1, g_29_2, g_29_3, g_29_4, g_29_5, g_29_6, g_29_7, g_29_8, g_29_9, r_30, r_31, r_32, r_33, r_34, r_35, r_36, o_37, g_37_0, g_37_1, g_37_2, g_37_3, g_37_4, g_37_5, g_37_6, g_37_7, g_37_8, g_37_9, r_38, r_39, r_40, r_41, r_42, r_43, r_44, o_45, g_45_0, g_45_1, g_45_2, g_45_3, g_45_4, g_45_5, g_45_6, g_45_7, g_45_8, g_45_9, r_46, r_47, r_48, r_49, r_50, r_51, r_52, o_53, g_53_0, g_53_1, g_53_2, g_53_3, g_53_4, g_53_5, g_53_6, g_53_7, g_53_8, g_53_9, r_54, r_55, r_56, r_57, r_58, r_59, r_60, o_61, g_61_0, g_61_1, g_61_2, g_61_3, g_61_4, g_61_5, g_61_6, g_61_7, g_61_8, g_61_9, g_61_10, g_61_11, g_61_12, g_61_13, g_61_14, g_61_15, g_61_16, g_61_17, g_61_18, g_61_19, g_61_20, g_61_21, g_61_22, g_61_23, r_62, r_63, r_64, r_65, r_66, r_67, r_68, r_69, r_70, r_71, r_72, r_73, r_74, r_75, r_76, r_77, Option.bind_some, leN, hL1.2.1, if_neg (show ¬ nT n ≤ k by omega), ea, if_neg c, e2, bind2, add1]
          rw [cAt_s, if_pos c]
        · rw [rdR_s, rdM_s, if_neg c, if_neg c]
          exact r2
    · rintro a fuel ⟨m1, rfl, hr, hf⟩
      have hL1 := LC_9 hL hf
      refine ⟨_, ?_, m1, rfl, hr, hf⟩
      simp (disch := omega) only [l_X3_read_8, o_0, g_0_0, g_0_1, g_0_2, g_0_3, g_0_4, g_0_5, g_0_6, g_0_7, g_0_8, g_0_9, g_0_10, g_0_11, o_1, g_1_0, g_1_1, g_1_2, g_1_3, g_1_4, g_1_5, g_1_6, g_1_7, g_1_8, g_1_9, r_2, r_3, r_4, r_5, r_6, r_7, r_8, o_9, g_9_0, g_9_1, g_9_2, g_9_3, g_9_4, g_9_5, g_9_6, g_9_7, g_9_8, g_9_9, r_10, r_11, r_12, r_13, r_14, r_15, r_16, o_17, g_17_0, g_17_1, g_17_2, g_17_3, g_17_4, r_18, r_19, r_20, r_22, r_23, r_24, r_25, r_26, r_27, r_28, o_29, g_29_0, g_29_1, g_29_2, g_29_3, g_29_4, g_29_5, g_29_6, g_29_7, g_29_8, g_29_9, r_30, r_31, r_32, r_33, r_34, r_35, r_36, o_37, g_37_0, g_37_1, g_37_2, g_37_3, g_37_4, g_37_5, g_37_6, g_37_7, g_37_8, g_37_9, r_38, r_39, r_40, r_41, r_42, r_43, r_44, o_45, g_45_0, g_45_1, g_45_2, g_45_3, g_45_4, g_45_5, g_45_6, g_45_7, g_45_8, g_45_9, r_46, r_47, r_48, r_49, r_50, r_51, r_52, o_53, g_53_0, g_53_1, g_53_2, g_53_3, g_53_4, g_53_5, g_53_6, g_53_7, g_53_8, g_53_9, r_54, r_55, r_56, r_57, r_58, r_59, r_60, o_61, g_61_0, g_61_1, g_61_2, g_61_3, g_61_4, g_61_5, g_61_6, g_61_7, g_61_8, g_61_9, g_61_10, g_61_11, g_61_12, g_61_13, g_61_14, g_61_15, g_61_16, g_61_17, g_61_18, g_61_19, g_61_20, g_61_21, g_61_22, g_61_23, r_62, r_63, r_64, r_65, r_66, r_67, r_68, r_69, r_70, r_71, r_72, r_73, r_74, r_75, r_76, r_77, Option.bind_some, leN, hL1.2.1, if_pos (Nat.le_refl (nT n))]
  obtain ⟨b, e, m1, rfl, hr, hf⟩ := key
  exact ⟨m1, e, hr, hf⟩
theorem m_read {n : Nat} {m : Mem} {M : Nat → Int64} (g : GG n (m.I 62) M) (hL : LM n m) : l_X4_read_8 61 FU 0 0 (HH m) = some (nI (cAt n (rX (m.I 62)) (rY (m.I 62)) (nT n)), HH (m.rI 62 (rdR n (m.I 62) (nT n)))) := by
  have hn := g.1
  have hT := nT_le hn
  have key : ∃ b, l_X4_read_8 61 FU (nI 0) (nI 0) (HH m) = some b ∧ b = (nI (cAt n (rX (m.I 62)) (rY (m.I 62)) (nT n)), HH (m.rI 62 (rdR n (m.I 62) (nT n)))) := by
    refine loopR (fun fuel (a : Int32 × Int32 × Hp) => l_X4_read_8 61 fuel a.1 a.2.1 a.2.2) (fun k a => a = (nI (cAt n (rX (m.I 62)) (rY (m.I 62)) k), nI k, HH (m.rI 62 (rdR n (m.I 62) k)))) _ (nT n) ?_ ?_ (nT n) 0 (nI 0, nI 0, HH m) FU (by omega) (FUx (by omega)) (by
      show _ = (nI 0, nI 0, HH (m.rI 62 (m.I 62)))
      rw [rI_id])
    · rintro k a fuel hk rfl
      obtain ⟨g1, hi⟩ := rd_ok g k (by omega)
      have hL1 : LM n (m.rI 62 (rdR n (m.I 62) k)) := LM_fr hL rfl rfl rfl rfl rfl
      obtain ⟨exy, eyy⟩ := rXY hi
      obtain ⟨x, ex, x1, x0⟩ := m_seen hn hL1 hk
      have es := m_sseen hn hL1 hk
      rw [rI_I, exy] at x1 x0
      rw [rI_I, exy, eyy] at es
      refine Or.inl ⟨(nI (cAt n (rX (m.I 62)) (rY (m.I 62)) (k + 1)), nI (k + 1), HH (m.rI 62 (rdR n (m.I 62) (k + 1)))), ?_, rfl⟩
      simp (disch := omega) only [l_X4_read_8, g_61_9, hL1.1, leN, if_neg (show ¬ nT n ≤ k by omega), Option.bind_some, ex, es]
      by_cases c : placed n (rX (m.I 62)) k
      · have ea := sAt_yes (Y := rY (m.I 62)) c
        have ne : ¬ sAt n (rX (m.I 62)) (rY (m.I 62)) k = -100 := by rw [ea]; exact ok3_ne (sg3_ok _)
        have eg := m_gives (m.rI 62 (rdR n (m.I 62) k)) hT hL1.1 hk (sAt n (rX (m.I 62)) (rY (m.I 62)) k)
        rw [rI_I, rI_rI] at eg
        rw [x1 c, if_neg (show ¬ (1 : Int32) = 0 by decide), ← ea, eg, Option.bind_some, cAt_s, rdR_s, if_pos ne, if_neg ne]
        simp only [bind2, add_1]
      · have ea := sAt_no (Y := rY (m.I 62)) c
        rw [x0 c, if_pos rfl, cAt_s, rdR_s, if_neg (fun h => h ea), if_pos ea]
        simp only [bind2, add_1]
    · rintro a fuel rfl
      have hL1 : LM n (m.rI 62 (rdR n (m.I 62) (nT n))) := LM_fr hL rfl rfl rfl rfl rfl
      refine ⟨_, ?_, rfl⟩
      simp (disch := omega) only [l_X4_read_8, g_61_9, hL1.1, leN, if_pos (Nat.le_refl (nT n)), Option.bind_some]
  obtain ⟨b, e, rfl⟩ := key
  exact e
theorem k_read {m : Mem} (hi : INV m) : okN (f_X3_read 0) (f_X4_read 61) m := by
  obtain ⟨n, s, M, q, P, PM, tl, tx, hC, hD, b⟩ := INV_out hi
  obtain ⟨m1, e1, C1, u1⟩ := C_now hC b
  obtain ⟨m2, e2, r2, f2⟩ := c_read b.1 C1.1 C1.2.2.1
  refine N_ok (v := nI (cAt n (rX s) (rY s) (nT n))) (m1 := m2) ?_ (CC_now C1 (up4_le q b.2.1) f2 r2) (upC_tr u1 (upC_9 f2)) hD (BB_psh b (rd_ok b.1 (nT n) (Nat.le_refl _)).1) (fun m3 hD3 => ?_)
  · simp only [f_X3_read, o_0, g_0_0, g_0_1, g_0_2, g_0_3, g_0_4, g_0_5, g_0_6, g_0_7, g_0_8, g_0_9, g_0_10, g_0_11, o_1, g_1_0, g_1_1, g_1_2, g_1_3, g_1_4, g_1_5, g_1_6, g_1_7, g_1_8, g_1_9, r_2, r_3, r_4, r_5, r_6, r_7, r_8, o_9, g_9_0, g_9_1, g_9_2, g_9_3, g_9_4, g_9_5, g_9_6, g_9_7, g_9_8, g_9_9, r_10, r_11, r_12, r_13, r_14, r_15, r_16, o_17, g_17_0, g_17_1, g_17_2, g_17_3, g_17_4, r_18, r_19, r_20, r_22, r_23, r_24, r_25, r_26, r_27, r_28, o_29, g_29_0, g_29_1, g_29_2, g_29_3, g_29_4, g_29_5, g_29_6, g_29_7, g_29_8, g_29_9, r_30, r_31, r_32, r_33, r_34, r_35, r_36, o_37, g_37_0, g_37_1, g_37_2, g_37_3, g_37_4, g_37_5, g_37_6, g_37_7, g_37_8, g_37_9, r_38, r_39, r_40, r_41, r_42, r_43, r_44, o_45, g_45_0, g_45_1, g_45_2, g_45_3, g_45_4, g_45_5, g_45_6, g_45_7, g_45_8, g_45_9, r_46, r_47, r_48, r_49, r_50, r_51, r_52, o_53, g_53_0, g_53_1, g_53_2, g_53_3, g_53_4, g_53_5, g_53_6, g_53_7, g_53_8, g_53_9, r_54, r_55, r_56, r_57, r_58, r_59, r_60, o_61, g_61_0, g_61_1, g_61_2, g_61_3, g_61_4, g_61_5, g_61_6, g_61_7, g_61_8, g_61_9, g_61_10, g_61_11, g_61_12, g_61_13, g_61_14, g_61_15, g_61_16, g_61_17, g_61_18, g_61_19, g_61_20, g_61_21, g_61_22, g_61_23, r_62, r_63, r_64, r_65, r_66, r_67, r_68, r_69, r_70, r_71, r_72, r_73, r_74, r_75, r_76, r_77, Option.bind_some, e1, e2, bind2]
  · obtain ⟨m4, e4, D4, a4, u4⟩ := d_hold hD3
    have e5 := m_read (m := m4) (M := M) (by rw [D4.2.1]; exact b.1) D4.1
    rw [D4.2.1] at e5
    obtain ⟨m6, e6, D6, z6, u6⟩ := d_ends (DD_row (s' := rdR n s (nT n)) D4) a4 b.2.1 (nI (cAt n (rX s) (rY s) (nT n)))
    refine ⟨m6, ?_, D6, upM_tr u4 (upM_tr (r62 m4 _) u6)⟩
    simp only [f_X4_read, o_61, Option.bind_some, e4, e5, e6, bind2]
/-! mismatches -/
def mis (n : Nat) (s X Y : Nat → Int32) (k : Nat) : Nat := cntN (fun t => s (3 + 4 * t + 1) ≠ 0 ∧ sAt n X Y t ≠ -100 ∧ sAt n X Y t ≠ s (3 + 4 * t)) k
theorem mis_s (n : Nat) (s X Y : Nat → Int32) (k : Nat) : mis n s X Y (k + 1) = if s (3 + 4 * k + 1) ≠ 0 ∧ sAt n X Y k ≠ -100 ∧ sAt n X Y k ≠ s (3 + 4 * k) then mis n s X Y k + 1 else mis n s X Y k := rfl
theorem cl_mis {n : Nat} (hn : n38 n) {m : Mem} (hL : LC n m) {s : Nat → Int32} {M : Nat → Int64} (hs : RS 9 m s M) {a c : Nat} {X Y : Nat → Int32} (hX : ∀ p, p < n → aI (HH m) a (nI p) = some (X p)) (hY : ∀ p, p < n → aI (HH m) c (nI p) = some (Y p)) : f_X3_mismatchesAt 0 a c (HH m) = some (nI (mis n s X Y (nT n))) := by
  have hT := nT_le hn
  have key : ∃ b, l_X3_mismatchesAt_5 0 a c (HH m) FU (nI 0) (nI 0) = some b ∧ b = nI (mis n s X Y (nT n)) := by
    refine loopR (fun fuel (x : Int32 × Int32) => l_X3_mismatchesAt_5 0 a c (HH m) fuel x.1 x.2) (fun k x => x = (nI (mis n s X Y k), nI k)) _ (nT n) ?_ ?_ (nT n) 0 (nI 0, nI 0) FU (by omega) (FUx (by omega)) rfl
    · rintro k x fuel hk rfl
      refine Or.inl ⟨(nI (mis n s X Y (k + 1)), nI (k + 1)), ?_, rfl⟩
      have e1 : m.I 11 k = s (3 + 4 * k + 1) := (hs.2.2.2.1 k (by omega)).2.1
      have e0 : m.I 10 k = s (3 + 4 * k) := (hs.2.2.2.1 k (by omega)).1
      simp (disch := omega) only [l_X3_mismatchesAt_5, o_0, g_0_0, g_0_1, g_0_2, g_0_3, g_0_4, g_0_5, g_0_6, g_0_7, g_0_8, g_0_9, g_0_10, g_0_11, o_1, g_1_0, g_1_1, g_1_2, g_1_3, g_1_4, g_1_5, g_1_6, g_1_7, g_1_8, g_1_9, r_2, r_3, r_4, r_5, r_6, r_7, r_8, o_9, g_9_0, g_9_1, g_9_2, g_9_3, g_9_4, g_9_5, g_9_6, g_9_7, g_9_8, g_9_9, r_10, r_11, r_12, r_13, r_14, r_15, r_16, o_17, g_17_0, g_17_1, g_17_2, g_17_3, g_17_4, r_18, r_19, r_20, r_22, r_23, r_24, r_25, r_26, r_27, r_28, o_29, g_29_0, g_29_1, g_29_2, g_29_3, g_29_4, g_29_5, g_29_6, g_29_7, g_29_8, g_29_9, r_30, r_31, r_32, r_33, r_34, r_35, r_36, o_37, g_37_0, g_37_1, g_37_2, g_37_3, g_37_4, g_37_5, g_37_6, g_37_7, g_37_8, g_37_9, r_38, r_39, r_40, r_41, r_42, r_43, r_44, o_45, g_45_0, g_45_1, g_45_2, g_45_3, g_45_4, g_45_5, g_45_6, g_45_7, g_45_8, g_45_9, r_46, r_47, r_48, r_49, r_50, r_51, r_52, o_53, g_53_0, g_53_1, g_53_2, g_53_3, g_53_4, g_53_5, g_53_6, g_53_7, g_53_8, g_53_9, r_54, r_55, r_56, r_57, r_58, r_59, r_60, o_61, g_61_0, g_61_1, g_61_2, g_61_3, g_61_4, g_61_5, g_61_6, g_61_7, g_61_8, g_61_9, g_61_10, g_61_11, g_61_12, g_61_13, g_61_14, g_61_15, g_61_16, g_61_17, g_61_18, g_61_19, g_61_20, g_61_21, g_61_22, g_61_23, r_62, r_63, r_64, r_65, r_66, r_67, r_68, r_69, r_70, r_71, r_72, r_73, r_74, r_75, r_76, r_77, Option.bind_some, leN, hL.2.1, if_neg (show ¬ nT n ≤ k by omega), e1, e0, cl_at hn hL hX hY hk, add1]
      rw [mis_s]
      by_cases c1 : s (3 + 4 * k + 1) = 0
      · rw [if_pos c1, if_neg (fun h => h.1 c1), Option.bind_some]
      · rw [if_neg c1]
        by_cases c2 : sAt n X Y k = -100
        · rw [if_pos c2, if_neg (fun h => h.2.1 c2), Option.bind_some]
        · rw [if_neg c2]
          by_cases c3 : sAt n X Y k = s (3 + 4 * k)
          · rw [if_pos c3, if_neg (fun h => h.2.2 c3), Option.bind_some]
          · rw [if_neg c3, if_pos ⟨c1, c2, c3⟩, Option.bind_some]
    · rintro x fuel rfl
      refine ⟨_, ?_, rfl⟩
      simp (disch := omega) only [l_X3_mismatchesAt_5, o_0, g_0_0, g_0_1, g_0_2, g_0_3, g_0_4, g_0_5, g_0_6, g_0_7, g_0_8, g_0_9, g_0_10, g_0_11, o_1, g_1_0, g_1_1, g_1_2, g_1_3, g_1_4, g_1_5, g_1_6, g_1_7, g_1_8, g_1_9, r_2, r_3, r_4, r_5, r_6, r_7, r_8, o_9, g_9_0, g_9_1, g_9_2, g_9_3, g_9_4, g_9_5, g_9_6, g_9_7, g_9_8, g_9_9, r_10, r_11, r_12, r_13, r_14, r_15, r_16, o_17, g_17_0, g_17_1, g_17_2, g_17_3, g_17_4, r_18, r_19, r_20, r_22, r_23, r_24, r_25, r_26, r_27, r_28, o_29, g_29_0, g_29_1, g_29_2, g_29_3, g_29_4, g_29_5, g_29_6, g_29_7, g_29_8, g_29_9, r_30, r_31, r_32, r_33, r_34, r_35, r_36, o_37, g_37_0, g_37_1, g_37_2, g_37_3, g_37_4, g_37_5, g_37_6, g_37_7, g_37_8, g_37_9, r_38, r_39, r_40, r_41, r_42, r_43, r_44, o_45, g_45_0, g_45_1, g_45_2, g_45_3, g_45_4, g_45_5, g_45_6, g_45_7, g_45_8, g_45_9, r_46, r_47, r_48, r_49, r_50, r_51, r_52, o_53, g_53_0, g_53_1, g_53_2, g_53_3, g_53_4, g_53_5, g_53_6, g_53_7, g_53_8, g_53_9, r_54, r_55, r_56, r_57, r_58, r_59, r_60, o_61, g_61_0, g_61_1, g_61_2, g_61_3, g_61_4, g_61_5, g_61_6, g_61_7, g_61_8, g_61_9, g_61_10, g_61_11, g_61_12, g_61_13, g_61_14, g_61_15, g_61_16, g_61_17, g_61_18, g_61_19, g_61_20, g_61_21, g_61_22, g_61_23, r_62, r_63, r_64, r_65, r_66, r_67, r_68, r_69, r_70, r_71, r_72, r_73, r_74, r_75, r_76, r_77, Option.bind_some, leN, hL.2.1, if_pos (Nat.le_refl (nT n))]
  obtain ⟨b, e, rfl⟩ := key
  simp only [f_X3_mismatchesAt, o_0, Option.bind_some]
  rw [show l_X3_mismatchesAt_5 0 a c (HH m) FU 0 0 = _ from e, Option.bind_some]
theorem G_un {n : Nat} {s : Nat → Int32} {M : Nat → Int64} {t : Nat} (g : gTr n s M t) : s (3 + 4 * t) = -100 ↔ s (3 + 4 * t + 1) = 0 := by
  rcases g with g | g | ⟨r, st, g⟩
  · exact ⟨fun _ => g.1, fun _ => g.2.1⟩
  · exact ⟨fun h => absurd h (ok3_ne g.2.2.1), fun h => by rw [g.2.1] at h; exact absurd h (by decide)⟩
  · exact ⟨fun h => absurd h (ok3_ne g.2.2.1), fun h => by rw [g.2.1] at h; exact absurd h (by decide)⟩
theorem m_wrong {n : Nat} {m : Mem} {M : Nat → Int64} (g : GG n (m.I 62) M) (hL : LM n m) : f_X4_wrong 61 (HH m) = some (nI (mis n (m.I 62) (rX (m.I 62)) (rY (m.I 62)) (nT n))) := by
  have hn := g.1
  have hT := nT_le hn
  have key : ∃ b, l_X4_wrong_4 61 (HH m) FU (nI 0) (nI 0) = some b ∧ b = nI (mis n (m.I 62) (rX (m.I 62)) (rY (m.I 62)) (nT n)) := by
    refine loopR (fun fuel (x : Int32 × Int32) => l_X4_wrong_4 61 (HH m) fuel x.1 x.2) (fun k x => x = (nI (mis n (m.I 62) (rX (m.I 62)) (rY (m.I 62)) k), nI k)) _ (nT n) ?_ ?_ (nT n) 0 (nI 0, nI 0) FU (by omega) (FUx (by omega)) rfl
    · rintro k x fuel hk rfl
      refine Or.inl ⟨(nI (mis n (m.I 62) (rX (m.I 62)) (rY (m.I 62)) (k + 1)), nI (k + 1)), ?_, rfl⟩
      have gu := G_un (g.2.2.2 k (by omega))
      obtain ⟨x, ex, x1, x0⟩ := m_seen hn hL hk
      have es := m_sseen hn hL hk
      simp (disch := omega) only [l_X4_wrong_4, g_61_9, hL.1, leN, if_neg (show ¬ nT n ≤ k by omega), Option.bind_some, get_0, ex, es]
      rw [mis_s]
      by_cases c1 : m.I 62 (3 + 4 * k) = -100
      · rw [if_pos c1, if_neg (fun h => h.1 (gu.mp c1)), Option.bind_some, add_0, add_1]
      · rw [if_neg c1]
        by_cases c2 : placed n (rX (m.I 62)) k
        · have ea := sAt_yes (Y := rY (m.I 62)) c2
          rw [x1 c2, if_neg (show ¬ (1 : Int32) = 0 by decide), ← ea]
          by_cases c3 : sAt n (rX (m.I 62)) (rY (m.I 62)) k = m.I 62 (3 + 4 * k)
          · rw [if_pos c3, if_neg (fun h => h.2.2 c3), Option.bind_some, add_0, add_1]
          · rw [if_neg c3, if_pos ⟨fun h => c1 (gu.mpr h), by rw [ea]; exact ok3_ne (sg3_ok _), c3⟩, Option.bind_some, add_1, add_1]
        · have ea := sAt_no (Y := rY (m.I 62)) c2
          rw [x0 c2, if_pos rfl, if_neg (fun h => h.2.1 ea), Option.bind_some, add_0, add_1]
    · rintro x fuel rfl
      refine ⟨_, ?_, rfl⟩
      simp (disch := omega) only [l_X4_wrong_4, g_61_9, hL.1, leN, if_pos (Nat.le_refl (nT n)), Option.bind_some]
  obtain ⟨b, e, rfl⟩ := key
  simp only [f_X4_wrong, o_61, Option.bind_some]
  rw [show l_X4_wrong_4 61 (HH m) FU 0 0 = _ from e, Option.bind_some]
theorem c_mism {n : Nat} (hn : n38 n) {m : Mem} (hL : LC n m) {s : Nat → Int32} {M : Nat → Int64} (hs : RS 9 m s M) : f_X3_mismatches 0 (HH m) = some (nI (mis n s (rX s) (rY s) (nT n))) := by
  have h8 := hn.2
  have e := cl_mis hn hL hs (a := 15) (c := 16) (X := rX s) (Y := rY s) (fun p hp => by
    rw [r_15 m (by omega), show m.I 15 p = _ from (hs.2.2.2.2 p (by omega)).1]
    rfl) (fun p hp => by
    rw [r_16 m (by omega), show m.I 16 p = _ from (hs.2.2.2.2 p (by omega)).2]
    rfl)
  simp only [f_X3_mismatches, o_0, g_0_0, g_0_1, g_0_2, g_0_3, g_0_4, g_0_5, g_0_6, g_0_7, g_0_8, g_0_9, g_0_10, g_0_11, o_1, g_1_0, g_1_1, g_1_2, g_1_3, g_1_4, g_1_5, g_1_6, g_1_7, g_1_8, g_1_9, r_2, r_3, r_4, r_5, r_6, r_7, r_8, o_9, g_9_0, g_9_1, g_9_2, g_9_3, g_9_4, g_9_5, g_9_6, g_9_7, g_9_8, g_9_9, r_10, r_11, r_12, r_13, r_14, r_15, r_16, o_17, g_17_0, g_17_1, g_17_2, g_17_3, g_17_4, r_18, r_19, r_20, r_22, r_23, r_24, r_25, r_26, r_27, r_28, o_29, g_29_0, g_29_1, g_29_2, g_29_3, g_29_4, g_29_5, g_29_6, g_29_7, g_29_8, g_29_9, r_30, r_31, r_32, r_33, r_34, r_35, r_36, o_37, g_37_0, g_37_1, g_37_2, g_37_3, g_37_4, g_37_5, g_37_6, g_37_7, g_37_8, g_37_9, r_38, r_39, r_40, r_41, r_42, r_43, r_44, o_45, g_45_0, g_45_1, g_45_2, g_45_3, g_45_4, g_45_5, g_45_6, g_45_7, g_45_8, g_45_9, r_46, r_47, r_48, r_49, r_50, r_51, r_52, o_53, g_53_0, g_53_1, g_53_2, g_53_3, g_53_4, g_53_5, g_53_6, g_53_7, g_53_8, g_53_9, r_54, r_55, r_56, r_57, r_58, r_59, r_60, o_61, g_61_0, g_61_1, g_61_2, g_61_3, g_61_4, g_61_5, g_61_6, g_61_7, g_61_8, g_61_9, g_61_10, g_61_11, g_61_12, g_61_13, g_61_14, g_61_15, g_61_16, g_61_17, g_61_18, g_61_19, g_61_20, g_61_21, g_61_22, g_61_23, r_62, r_63, r_64, r_65, r_66, r_67, r_68, r_69, r_70, r_71, r_72, r_73, r_74, r_75, r_76, r_77, Option.bind_some, e]
theorem k_mismatches {m : Mem} (hi : INV m) : ∃ v m2, f_X3_mismatches 0 (HH m) = some v ∧ f_X4_mismatches 61 (HH m) = some (v, HH m2) ∧ INV m2 := by
  obtain ⟨n, s, M, q, P, PM, tl, tx, hC, hD, b⟩ := INV_out hi
  have e := m_wrong (m := m) (M := M) (by rw [hD.2.1]; exact b.1) hD.1
  rw [hD.2.1] at e
  refine ⟨_, _, c_mism b.1.1 hC.1 hC.2.2.1, ?_, INV_of (CC_up hC (fl hD 0).2.2 b.2.1) (fl hD 0).1 b⟩
  simp only [f_X4_mismatches, o_61, Option.bind_some, e, m_tells, bind2]
