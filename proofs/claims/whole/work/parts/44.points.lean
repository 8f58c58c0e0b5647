/-! the undoable calls with arguments: setUniform, give, drop, exchange, place; and the readers sign, coordinate -/
theorem in_y {v a b : Int32} (h1 : ¬ v < a) (h2 : ¬ b < v) : f_X4_in v a b = some 1 := by
  unfold f_X4_in
  rw [if_neg h1, if_neg h2]
theorem in_n {v a b : Int32} (h : v < a ∨ b < v) : f_X4_in v a b = some 0 := by
  unfold f_X4_in
  by_cases c : v < a
  · rw [if_pos c]
  · rw [if_neg c, if_pos (h.resolve_left c)]
theorem ok3_or (v : Int32) : ok3 v ∨ v < -1 ∨ 1 < v := by
  have k1 : (-1 : Int32).toInt = -1 := by decide
  have k2 : (1 : Int32).toInt = 1 := by decide
  have k0 : (0 : Int32).toInt = 0 := by decide
  rw [Int32.lt_iff_toInt_lt, Int32.lt_iff_toInt_lt, k1, k2]
  by_cases c : v.toInt < -1
  · exact Or.inr (Or.inl c)
  · by_cases d : 1 < v.toInt
    · exact Or.inr (Or.inr d)
    · refine Or.inl ?_
      have : v.toInt = -1 ∨ v.toInt = 0 ∨ v.toInt = 1 := by omega
      rcases this with e | e | e
      · exact Or.inl (Int32.toInt_inj.mp (e.trans k1.symm))
      · exact Or.inr (Or.inl (Int32.toInt_inj.mp (e.trans k0.symm)))
      · exact Or.inr (Or.inr (Int32.toInt_inj.mp (e.trans k2.symm)))
theorem le_nlt {a b : Int32} (h : ¬ b < a) : a ≤ b := by
  rw [Int32.lt_iff_toInt_lt] at h
  rw [Int32.le_iff_toInt_le]
  omega
theorem nle_lt {a b : Int32} (h : b < a) : ¬ a ≤ b := by
  rw [Int32.lt_iff_toInt_lt] at h
  rw [Int32.le_iff_toInt_le]
  omega
theorem RS_u {m : Mem} {s : Nat → Int32} {M : Nat → Int64} (h : RS 9 m s M) (x : Int32) : RS 9 (m.sI 9 1 x) (upd s 1 x) M ∧ Fr (cS 9) m (m.sI 9 1 x) := by
  refine ⟨⟨?_, ?_, ?_, fun u hu => ?_, fun p hp => ?_⟩, Fr_sI (Fr_rf _ m) ⟨by omega, by omega⟩⟩
  · show upd (m.I 9) 1 x 0 = upd s 1 x 0
    rw [upd_g, upd_g, if_neg (by omega), if_neg (by omega)]
    exact h.1
  · show upd (m.I 9) 1 x 1 = upd s 1 x 1
    rw [upd_g, upd_g, if_pos rfl, if_pos rfl]
  · show upd (m.I 9) 1 x 2 = upd s 1 x 2
    rw [upd_g, upd_g, if_neg (by omega), if_neg (by omega)]
    exact h.2.2.1
  · rw [upd_g, upd_g, upd_g, upd_g, if_neg (by omega), if_neg (by omega), if_neg (by omega), if_neg (by omega)]
    exact h.2.2.2.1 u hu
  · rw [upd_g, upd_g, if_neg (by omega), if_neg (by omega)]
    exact h.2.2.2.2 p hp
theorem GG_u {n : Nat} {s : Nat → Int32} {M : Nat → Int64} (g : GG n s M) {x : Int32} (hx : x = 0 ∨ x = 1) : GG n (upd s 1 x) M := by
  obtain ⟨hn, g0, g1, gt⟩ := g
  have o : ∀ j, j ≠ 1 → upd s 1 x j = s j := fun j hj => by rw [upd_g, if_neg hj]
  have om : many (upd s 1 x) 2 (nT n) = many s 2 (nT n) := cntN_cg _ _ _ (fun u _ => by rw [o _ (by omega)])
  have o0 : ∀ t, upd s 1 x (3 + 4 * t) = s (3 + 4 * t) := fun t => o _ (by omega)
  have o1 : ∀ t, upd s 1 x (3 + 4 * t + 1) = s (3 + 4 * t + 1) := fun t => o _ (by omega)
  have o2 : ∀ t, upd s 1 x (3 + 4 * t + 2) = s (3 + 4 * t + 2) := fun t => o _ (by omega)
  have o3 : ∀ t, upd s 1 x (3 + 4 * t + 3) = s (3 + 4 * t + 3) := fun t => o _ (by omega)
  refine ⟨hn, by rw [o 0 (by omega)]; exact g0, by rw [upd_g, if_pos rfl]; exact hx, fun t ht => ?_⟩
  unfold gTr G0 G1 G2
  simp only [o0, o1, o2, o3, om]
  exact gt t ht
section Points
variable {m : Mem}
theorem k_uniform (hi : INV m) {a : Int32} (ha : a = 0 ∨ a = 1) : okN (f_X3_setUniform 0 a) (f_X4_setUniform 61 a) m := by
  obtain ⟨n, s, M, q, P, PM, tl, tx, hC, hD, b⟩ := INV_out hi
  have hn := b.1.1
  have hT := nT_le hn
  have h1 := b.1.2.2.1
  obtain ⟨m1, e1, C1, u1⟩ := C_now hC b
  obtain ⟨m2, e2, r2, f2⟩ := c9_forget C1.2.2.1 hT (GG_noD b.1)
  obtain ⟨r3, f3⟩ := RS_u r2 a
  have hu : m.I 9 1 = s 1 := hC.2.2.1.2.1
  have eg : gB (s 1) = some () := if_pos h1
  have ea : gB a = some () := if_pos ha
  refine N_ok (v := s 1) (m1 := m2.sI 9 1 a) ?_ (CC_now C1 (up4_le q b.2.1) (Fr_tr f2 f3) r3) (upC_tr u1 (upC_9 (Fr_tr f2 f3))) hD (BB_psh b (GG_u (GG_fgt b.1).1 ha)) (fun m3 hD3 => ?_)
  · simp only [f_X3_setUniform, o_0, g_0_0, g_0_1, g_0_2, g_0_3, g_0_4, p_0_4, g_0_5, g_0_6, g_0_7, g_0_8, g_0_9, g_0_10, g_0_11, o_1, g_1_0, p_1_0, g_1_1, p_1_1, g_1_2, p_1_2, g_1_3, g_1_4, g_1_5, g_1_6, g_1_7, g_1_8, g_1_9, r_2, w_2, r_3, w_3, r_4, w_4, r_5, w_5, r_6, w_6, r_7, w_7, r_8, w_8, o_9, g_9_0, p_9_0, g_9_1, p_9_1, g_9_2, p_9_2, g_9_3, g_9_4, g_9_5, g_9_6, g_9_7, g_9_8, g_9_9, r_10, w_10, r_11, w_11, r_12, w_12, r_13, w_13, r_14, w_14, r_15, w_15, r_16, w_16, o_17, g_17_0, g_17_1, p_17_1, g_17_2, g_17_3, g_17_4, p_17_4, r_18, w_18, r_19, w_19, r_20, w_20, r_22, w_22, r_23, w_23, r_24, w_24, r_25, w_25, r_26, w_26, r_27, w_27, r_28, w_28, o_29, g_29_0, p_29_0, g_29_1, p_29_1, g_29_2, p_29_2, g_29_3, g_29_4, g_29_5, g_29_6, g_29_7, g_29_8, g_29_9, r_30, w_30, r_31, w_31, r_32, w_32, r_33, w_33, r_34, w_34, r_35, w_35, r_36, w_36, o_37, g_37_0, p_37_0, g_37_1, p_37_1, g_37_2, p_37_2, g_37_3, g_37_4, g_37_5, g_37_6, g_37_7, g_37_8, g_37_9, r_38, w_38, r_39, w_39, r_40, w_40, r_41, w_41, r_42, w_42, r_43, w_43, r_44, w_44, o_45, g_45_0, p_45_0, g_45_1, p_45_1, g_45_2, p_45_2, g_45_3, g_45_4, g_45_5, g_45_6, g_45_7, g_45_8, g_45_9, r_46, w_46, r_47, w_47, r_48, w_48, r_49, w_49, r_50, w_50, r_51, w_51, r_52, w_52, o_53, g_53_0, p_53_0, g_53_1, p_53_1, g_53_2, p_53_2, g_53_3, g_53_4, g_53_5, g_53_6, g_53_7, g_53_8, g_53_9, r_54, w_54, r_55, w_55, r_56, w_56, r_57, w_57, r_58, w_58, r_59, w_59, r_60, w_60, o_61, g_61_0, g_61_1, g_61_2, g_61_3, p_61_3, g_61_4, g_61_5, p_61_5, g_61_6, p_61_6, g_61_7, g_61_8, g_61_9, p_61_9, g_61_10, g_61_11, p_61_11, g_61_12, p_61_12, g_61_13, g_61_14, g_61_15, g_61_16, g_61_17, g_61_18, g_61_19, g_61_20, p_61_20, g_61_21, p_61_21, g_61_22, g_61_23, p_61_23, r_62, w_62, r_63, w_63, r_64, w_64, r_65, w_65, r_66, w_66, r_67, w_67, r_68, w_68, r_69, w_69, r_70, w_70, r_71, w_71, r_72, w_72, r_73, w_73, r_74, w_74, r_75, w_75, r_76, w_76, r_77, w_77, Option.bind_some, hu, e1, e2, bind2, eg, ea]
  · obtain ⟨m4, e4, D4, a4, u4⟩ := d_hold hD3
    have e5 := m_forgets m4 hT D4.1.1
    rw [D4.2.1] at e5
    have f1 : fgt (nT n) s 1 = s 1 := by
      unfold fgt
      rw [upd_g, if_neg (by omega)]
      exact frg_o (by omega)
    have r1 : aI (HH (m4.rI 62 (fgt (nT n) s))) 62 1 = some (s 1) := by
      rw [show aI (HH (m4.rI 62 (fgt (nT n) s))) 62 1 = _ from r_62 _ (i := 1) (by omega), rI_I, f1]
    have w1 : wI (HH (m4.rI 62 (fgt (nT n) s))) 62 1 a = some (HH (m4.rI 62 (upd (fgt (nT n) s) 1 a))) := by
      rw [show wI (HH (m4.rI 62 (fgt (nT n) s))) 62 1 a = _ from w_62 _ (i := 1) (by omega) a, rI_sI]
    have e8 : (if s 1 = 1 then some (1 : Int32) else some 0) = some (s 1) := by
      rcases h1 with e | e <;> rw [e] <;> rfl
    have e14 : (if a = 0 then some (0 : Int32) else some 1) = some a := by
      rcases ha with e | e <;> rw [e] <;> rfl
    have hp : ¬ nI (many s 2 (nT n)) < 0 := nI_pos (by have := cntN_le (fun t => s (3 + 4 * t + 1) = 2) (nT n); unfold many; omega)
    have e20 : (if s 1 = 0 then some (0 : Int32) else if nI (many s 2 (nT n)) < 0 then some 0 else some 1) = some (s 1) := by
      rw [if_neg hp]
      rcases h1 with e | e <;> rw [e] <;> rfl
    obtain ⟨m6, e6, D6, z6, u6⟩ := d_ends (DD_row (s' := upd (fgt (nT n) s) 1 a) D4) a4 b.2.1 (s 1)
    refine ⟨m6, ?_, D6, upM_tr u4 (upM_tr (r62 m4 _) u6)⟩
    simp only [f_X4_setUniform, o_0, g_0_0, g_0_1, g_0_2, g_0_3, g_0_4, g_0_5, g_0_6, g_0_7, g_0_8, g_0_9, g_0_10, g_0_11, o_1, g_1_0, g_1_1, g_1_2, g_1_3, g_1_4, g_1_5, g_1_6, g_1_7, g_1_8, g_1_9, r_2, r_3, r_4, r_5, r_6, r_7, r_8, o_9, g_9_0, g_9_1, g_9_2, g_9_3, g_9_4, g_9_5, g_9_6, g_9_7, g_9_8, g_9_9, r_10, r_11, r_12, r_13, r_14, r_15, r_16, o_17, g_17_0, g_17_1, g_17_2, g_17_3, g_17_4, r_18, r_19, r_20, r_22, r_23, r_24, r_25, r_26, r_27, r_28, o_29, g_29_0, g_29_1, g_29_2, g_29_3, g_29_4, g_29_5, g_29_6, g_29_7, g_29_8, g_29_9, r_30, r_31, r_32, r_33, r_34, r_35, r_36, o_37, g_37_0, g_37_1, g_37_2, g_37_3, g_37_4, g_37_5, g_37_6, g_37_7, g_37_8, g_37_9, r_38, r_39, r_40, r_41, r_42, r_43, r_44, o_45, g_45_0, g_45_1, g_45_2, g_45_3, g_45_4, g_45_5, g_45_6, g_45_7, g_45_8, g_45_9, r_46, r_47, r_48, r_49, r_50, r_51, r_52, o_53, g_53_0, g_53_1, g_53_2, g_53_3, g_53_4, g_53_5, g_53_6, g_53_7, g_53_8, g_53_9, r_54, r_55, r_56, r_57, r_58, r_59, r_60, o_61, g_61_0, g_61_1, g_61_2, g_61_3, g_61_4, g_61_5, g_61_6, g_61_7, g_61_8, g_61_9, g_61_10, g_61_11, g_61_12, g_61_13, g_61_14, g_61_15, g_61_16, g_61_17, g_61_18, g_61_19, g_61_20, g_61_21, g_61_22, g_61_23, r_62, r_63, r_64, r_65, r_66, r_67, r_68, r_69, r_70, r_71, r_72, r_73, r_74, r_75, r_76, r_77, Option.bind_some, e4, e5, bind2, r1, e8, e14, w1, e20, e6]
    rcases h1 with e | e <;> rw [e] <;> rfl
theorem k_sign (hi : INV m) (x y z : Int32) : okW (f_L_sign 0 x y z 77) (f_X4_sign 61 x y z) m := by
  obtain ⟨n, s, M, q, P, PM, tl, tx, hC, hD, b⟩ := INV_out hi
  have hn := b.1.1
  have h0 : m.I 62 0 = nI n := by rw [hD.2.1]; exact b.1.2.1
  by_cases c : (x < 0 ∨ nI n ≤ x) ∨ (y < 0 ∨ nI n ≤ y) ∨ (z < 0 ∨ nI n ≤ z)
  · refine W_thr (k := 1) (by decide) ?_ hC b ⟨0, _, ?_, fl hD 1⟩
    · simp only [f_L_sign, f_X3_sign, o_0, Option.bind_some]
      rcases pt_or hn x with ⟨i, hi, rfl⟩ | hx
      · rcases pt_or hn y with ⟨j, hj, rfl⟩ | hy
        · rcases pt_or hn z with ⟨k, hk, rfl⟩ | hz
          · have := mp_n hn h0 c
            rw [mp_y hn h0 hi hj hk] at this
            exact absurd (Option.some.inj this) (by decide)
          · simp only [rp_y hn hC.1 hi, rp_y hn hC.1 hj, rp_n hC.1 hz, bindT, if_true]
        · simp only [rp_y hn hC.1 hi, rp_n hC.1 hy, bindT, if_true]
      · simp only [rp_n hC.1 hx, bindT, if_true]
    · simp only [f_X4_sign, o_61, Option.bind_some, mp_n hn h0 c, if_true, m_fails, bind2]
  · rcases pt_or hn x with ⟨i, hi, rfl⟩ | hx
    · rcases pt_or hn y with ⟨j, hj, rfl⟩ | hy
      · rcases pt_or hn z with ⟨k, hk, rfl⟩ | hz
        · refine W_ok (m1 := m) (w := (sgn n s i j k).toInt64) ?_ hC (upC_rf m) hD b (fun m3 hD3 => ?_)
          · simp only [f_L_sign, f_X3_sign, o_0, Option.bind_some, rp_y hn hC.1 hi, rp_y hn hC.1 hj, rp_y hn hC.1 hk, bindT, cl_sgn hn hC.1 hC.2.2.1 hi hj hk, w77]
          · have es := m_sgn hn hD3.1 hi hj hk
            rw [hD3.2.1] at es
            refine ⟨_, _, ?_, rfl, fl hD3 0⟩
            simp only [f_X4_sign, o_61, Option.bind_some, mp_y hn (by rw [hD3.2.1]; exact b.1.2.1) hi hj hk, if_neg (show ¬ (1 : Int32) = 0 by decide), es, m_tells, bind2]
        · exact absurd (Or.inr (Or.inr hz)) c
      · exact absurd (Or.inr (Or.inl hy)) c
    · exact absurd (Or.inl hx) c
theorem k_give (hi : INV m) (x y z v : Int32) : okW (f_L_give 0 x y z v 77) (f_X4_give 61 x y z v) m := by
  obtain ⟨n, s, M, q, P, PM, tl, tx, hC, hD, b⟩ := INV_out hi
  have hn := b.1.1
  have hT := nT_le hn
  obtain ⟨m4, e4, D4, a4, u4⟩ := d_hold hD
  have h0 : m4.I 62 0 = nI n := by rw [D4.2.1]; exact b.1.2.1
  have thr : ∀ k : Int32, k ≠ 0 → f_L_give 0 x y z v 77 (HH m) = some (k, HH m) → f_X4_givesTo 61 x y z v (HH m4) = some (k, HH m4) → ¬ k ≤ 0 → okW (f_L_give 0 x y z v 77) (f_X4_give 61 x y z v) m := by
    intro k hk h1 h2 h3
    obtain ⟨d1, d2, d3⟩ := fl D4 k
    refine W_thr hk h1 hC b ⟨0, _, ?_, d1, d2, upM_tr u4 d3⟩
    simp only [f_X4_give, f_X4_done, o_61, Option.bind_some, e4, h2, bind2, if_neg h3, m_fails]
  by_cases c : (x < 0 ∨ nI n ≤ x) ∨ (y < 0 ∨ nI n ≤ y) ∨ (z < 0 ∨ nI n ≤ z)
  · refine thr 1 (by decide) ?_ ?_ (by decide)
    · simp only [f_L_give, f_X3_give, o_0, Option.bind_some]
      rcases pt_or hn x with ⟨i, hi, rfl⟩ | hx
      · rcases pt_or hn y with ⟨j, hj, rfl⟩ | hy
        · rcases pt_or hn z with ⟨k, hk, rfl⟩ | hz
          · have := mp_n hn h0 c
            rw [mp_y hn h0 hi hj hk] at this
            exact absurd (Option.some.inj this) (by decide)
          · simp only [rp_y hn hC.1 hi, rp_y hn hC.1 hj, rp_n hC.1 hz, bindT, bindTW, if_true]
        · simp only [rp_y hn hC.1 hi, rp_n hC.1 hy, bindT, bindTW, if_true]
      · simp only [rp_n hC.1 hx, bindT, bindTW, if_true]
    · simp only [f_X4_givesTo, o_61, Option.bind_some, mp_n hn h0 c, if_true]
  · rcases pt_or hn x with ⟨i, hi, rfl⟩ | hx
    · rcases pt_or hn y with ⟨j, hj, rfl⟩ | hy
      · rcases pt_or hn z with ⟨k, hk, rfl⟩ | hz
        · by_cases c2 : i = j ∨ i = k ∨ j = k
          · refine thr 2 (by decide) ?_ ?_ (by decide)
            · simp only [f_L_give, f_X3_give, o_0, Option.bind_some, rp_y hn hC.1 hi, rp_y hn hC.1 hj, rp_y hn hC.1 hk, rd_n c2, bindT, bindTW, if_true, if_neg (show ¬ (0 : Nat) = 1 by decide)]
            · simp only [f_X4_givesTo, o_61, Option.bind_some, mp_y hn h0 hi hj hk, md_n c2, if_true, if_neg (show ¬ (1 : Int32) = 0 by decide)]
          · have h1 : i ≠ j := fun e => c2 (Or.inl e)
            have h2 : i ≠ k := fun e => c2 (Or.inr (Or.inl e))
            have h3 : j ≠ k := fun e => c2 (Or.inr (Or.inr e))
            rcases ok3_or v with hv | hv | hv
            · have ht := num_lt hn hi hj hk h1 h2 h3
              obtain ⟨m1, e1, C1, u1⟩ := C_now hC b
              obtain ⟨m2, e2, r2, f2⟩ := c_give C1.2.2.1 hT (GG_noD b.1) ht (par i j k * v)
              have v1 : ¬ v < -1 := by rcases hv with rfl | rfl | rfl <;> decide
              have v2 : v ≤ 1 := by rcases hv with rfl | rfl | rfl <;> decide
              have v3 : ¬ 1 < v := by rcases hv with rfl | rfl | rfl <;> decide
              refine W_ok (m1 := m2) (w := (sgn n s i j k).toInt64) ?_ (CC_now C1 (up4_le q b.2.1) f2 r2) (upC_tr u1 (upC_9 f2)) hD (BB_psh b (GG_give b.1 ht (ok3_mul (par_ok i j k) hv))) (fun m3 hD3 => ?_)
              · simp only [f_L_give, f_X3_give, f_X3_giveOrdered, o_0, g_0_0, g_0_1, g_0_2, g_0_3, g_0_4, g_0_5, g_0_6, g_0_7, g_0_8, g_0_9, g_0_10, g_0_11, o_1, g_1_0, g_1_1, g_1_2, g_1_3, g_1_4, g_1_5, g_1_6, g_1_7, g_1_8, g_1_9, r_2, r_3, r_4, r_5, r_6, r_7, r_8, o_9, g_9_0, g_9_1, g_9_2, g_9_3, g_9_4, g_9_5, g_9_6, g_9_7, g_9_8, g_9_9, r_10, r_11, r_12, r_13, r_14, r_15, r_16, o_17, g_17_0, g_17_1, g_17_2, g_17_3, g_17_4, r_18, r_19, r_20, r_22, r_23, r_24, r_25, r_26, r_27, r_28, o_29, g_29_0, g_29_1, g_29_2, g_29_3, g_29_4, g_29_5, g_29_6, g_29_7, g_29_8, g_29_9, r_30, r_31, r_32, r_33, r_34, r_35, r_36, o_37, g_37_0, g_37_1, g_37_2, g_37_3, g_37_4, g_37_5, g_37_6, g_37_7, g_37_8, g_37_9, r_38, r_39, r_40, r_41, r_42, r_43, r_44, o_45, g_45_0, g_45_1, g_45_2, g_45_3, g_45_4, g_45_5, g_45_6, g_45_7, g_45_8, g_45_9, r_46, r_47, r_48, r_49, r_50, r_51, r_52, o_53, g_53_0, g_53_1, g_53_2, g_53_3, g_53_4, g_53_5, g_53_6, g_53_7, g_53_8, g_53_9, r_54, r_55, r_56, r_57, r_58, r_59, r_60, o_61, g_61_0, g_61_1, g_61_2, g_61_3, g_61_4, g_61_5, g_61_6, g_61_7, g_61_8, g_61_9, g_61_10, g_61_11, g_61_12, g_61_13, g_61_14, g_61_15, g_61_16, g_61_17, g_61_18, g_61_19, g_61_20, g_61_21, g_61_22, g_61_23, r_62, r_63, r_64, r_65, r_66, r_67, r_68, r_69, r_70, r_71, r_72, r_73, r_74, r_75, r_76, r_77, Option.bind_some, rp_y hn hC.1 hi, rp_y hn hC.1 hj, rp_y hn hC.1 hk, rd_y hn hi hj hk h1 h2 h3, bindT, bindTW, if_neg v1, if_pos v2, cl_sgn hn hC.1 hC.2.2.1 hi hj hk, e1, cl_num hn C1.1 hi hj hk h1 h2 h3, cl_par hn C1.1 hi hj hk, e2, w77]
              · obtain ⟨m5, e5, D5, a5, u5⟩ := d_hold hD3
                have es := m_sgn hn D5.1 hi hj hk
                rw [D5.2.1] at es
                have D6 : DD n s q P tl tx (m5.sI 61 12 (sgn n s i j k)) := DD_61 D5 (by omega)
                have eg := m_gives (m5.sI 61 12 (sgn n s i j k)) hT D6.1.1 ht (v * par i j k)
                rw [D6.2.1, Int32.mul_comm v] at eg
                have a6 : AS s ((m5.sI 61 12 (sgn n s i j k)).rI 62 (gvR (nT n) (num n i j k) (par i j k * v) s)) := AS_f a5 (by rw [rI_n _ _ (by omega), sI_I, if_neg (by omega)])
                have e12 : ((m5.sI 61 12 (sgn n s i j k)).rI 62 (gvR (nT n) (num n i j k) (par i j k * v) s)).I 61 12 = sgn n s i j k := by rw [rI_n _ _ (by omega), sI_at, if_pos rfl]
                obtain ⟨m7, e7, D7, z7, u7⟩ := d_ends (DD_row (s' := gvR (nT n) (num n i j k) (par i j k * v) s) D6) a6 b.2.1 (sgn n s i j k)
                refine ⟨_, m7, ?_, rfl, D7, z7, upM_tr u5 (upM_tr (s61 _ _ _) (upM_tr (r62 _ _) u7))⟩
                simp only [f_X4_give, f_X4_givesTo, f_X4_done, o_0, g_0_0, g_0_1, g_0_2, g_0_3, g_0_4, p_0_4, g_0_5, g_0_6, g_0_7, g_0_8, g_0_9, g_0_10, g_0_11, o_1, g_1_0, p_1_0, g_1_1, p_1_1, g_1_2, p_1_2, g_1_3, g_1_4, g_1_5, g_1_6, g_1_7, g_1_8, g_1_9, r_2, w_2, r_3, w_3, r_4, w_4, r_5, w_5, r_6, w_6, r_7, w_7, r_8, w_8, o_9, g_9_0, p_9_0, g_9_1, p_9_1, g_9_2, p_9_2, g_9_3, g_9_4, g_9_5, g_9_6, g_9_7, g_9_8, g_9_9, r_10, w_10, r_11, w_11, r_12, w_12, r_13, w_13, r_14, w_14, r_15, w_15, r_16, w_16, o_17, g_17_0, g_17_1, p_17_1, g_17_2, g_17_3, g_17_4, p_17_4, r_18, w_18, r_19, w_19, r_20, w_20, r_22, w_22, r_23, w_23, r_24, w_24, r_25, w_25, r_26, w_26, r_27, w_27, r_28, w_28, o_29, g_29_0, p_29_0, g_29_1, p_29_1, g_29_2, p_29_2, g_29_3, g_29_4, g_29_5, g_29_6, g_29_7, g_29_8, g_29_9, r_30, w_30, r_31, w_31, r_32, w_32, r_33, w_33, r_34, w_34, r_35, w_35, r_36, w_36, o_37, g_37_0, p_37_0, g_37_1, p_37_1, g_37_2, p_37_2, g_37_3, g_37_4, g_37_5, g_37_6, g_37_7, g_37_8, g_37_9, r_38, w_38, r_39, w_39, r_40, w_40, r_41, w_41, r_42, w_42, r_43, w_43, r_44, w_44, o_45, g_45_0, p_45_0, g_45_1, p_45_1, g_45_2, p_45_2, g_45_3, g_45_4, g_45_5, g_45_6, g_45_7, g_45_8, g_45_9, r_46, w_46, r_47, w_47, r_48, w_48, r_49, w_49, r_50, w_50, r_51, w_51, r_52, w_52, o_53, g_53_0, p_53_0, g_53_1, p_53_1, g_53_2, p_53_2, g_53_3, g_53_4, g_53_5, g_53_6, g_53_7, g_53_8, g_53_9, r_54, w_54, r_55, w_55, r_56, w_56, r_57, w_57, r_58, w_58, r_59, w_59, r_60, w_60, o_61, g_61_0, g_61_1, g_61_2, g_61_3, p_61_3, g_61_4, g_61_5, p_61_5, g_61_6, p_61_6, g_61_7, g_61_8, g_61_9, p_61_9, g_61_10, g_61_11, p_61_11, g_61_12, p_61_12, g_61_13, g_61_14, g_61_15, g_61_16, g_61_17, g_61_18, g_61_19, g_61_20, p_61_20, g_61_21, p_61_21, g_61_22, g_61_23, p_61_23, r_62, w_62, r_63, w_63, r_64, w_64, r_65, w_65, r_66, w_66, r_67, w_67, r_68, w_68, r_69, w_69, r_70, w_70, r_71, w_71, r_72, w_72, r_73, w_73, r_74, w_74, r_75, w_75, r_76, w_76, r_77, w_77, Option.bind_some, e5, mp_y hn (show m5.I 62 0 = nI n by rw [D5.2.1]; exact b.1.2.1) hi hj hk, md_y hn hi hj hk h1 h2 h3, in_y v1 v3, if_neg (show ¬ (1 : Int32) = 0 by decide), es, m_num hn D6.1 hi hj hk h1 h2 h3, m_par hn hi hj hk h1 h2 h3, Int32.mul_comm v, eg, bind2, if_pos (show (0 : Int32) ≤ 0 by decide), e12, e7]
            · refine thr 2 (by decide) ?_ ?_ (by decide)
              · simp only [f_L_give, f_X3_give, o_0, Option.bind_some, rp_y hn hC.1 hi, rp_y hn hC.1 hj, rp_y hn hC.1 hk, rd_y hn hi hj hk h1 h2 h3, bindT, bindTW, if_pos hv, if_true, if_neg (show ¬ (0 : Nat) = 1 by decide)]
              · simp only [f_X4_givesTo, o_61, Option.bind_some, mp_y hn h0 hi hj hk, md_y hn hi hj hk h1 h2 h3, in_n (Or.inl hv), if_true, if_neg (show ¬ (1 : Int32) = 0 by decide)]
            · have v1 : ¬ v < -1 := fun e => by
                rw [Int32.lt_iff_toInt_lt] at hv e
                have k1 : (-1 : Int32).toInt = -1 := by decide
                have k2 : (1 : Int32).toInt = 1 := by decide
                omega
              refine thr 2 (by decide) ?_ ?_ (by decide)
              · simp only [f_L_give, f_X3_give, o_0, Option.bind_some, rp_y hn hC.1 hi, rp_y hn hC.1 hj, rp_y hn hC.1 hk, rd_y hn hi hj hk h1 h2 h3, bindT, bindTW, if_neg v1, if_neg (nle_lt hv), if_true, if_neg (show ¬ (0 : Nat) = 1 by decide)]
              · simp only [f_X4_givesTo, o_61, Option.bind_some, mp_y hn h0 hi hj hk, md_y hn hi hj hk h1 h2 h3, in_n (Or.inr hv), if_true, if_neg (show ¬ (1 : Int32) = 0 by decide)]
        · exact absurd (Or.inr (Or.inr hz)) c
      · exact absurd (Or.inr (Or.inl hy)) c
    · exact absurd (Or.inl hx) c
theorem k_drop (hi : INV m) (x y z : Int32) : okW (f_L_drop 0 x y z 77) (f_X4_drop 61 x y z) m := by
  obtain ⟨n, s, M, q, P, PM, tl, tx, hC, hD, b⟩ := INV_out hi
  have hn := b.1.1
  have hT := nT_le hn
  obtain ⟨m4, e4, D4, a4, u4⟩ := d_hold hD
  have h0 : m4.I 62 0 = nI n := by rw [D4.2.1]; exact b.1.2.1
  have thr : ∀ k : Int32, k ≠ 0 → f_L_drop 0 x y z 77 (HH m) = some (k, HH m) → f_X4_drops 61 x y z (HH m4) = some (k, HH m4) → ¬ k ≤ 0 → okW (f_L_drop 0 x y z 77) (f_X4_drop 61 x y z) m := by
    intro k hk h1 h2 h3
    obtain ⟨d1, d2, d3⟩ := fl D4 k
    refine W_thr hk h1 hC b ⟨0, _, ?_, d1, d2, upM_tr u4 d3⟩
    simp only [f_X4_drop, f_X4_done, o_61, Option.bind_some, e4, h2, bind2, if_neg h3, m_fails]
  by_cases c : (x < 0 ∨ nI n ≤ x) ∨ (y < 0 ∨ nI n ≤ y) ∨ (z < 0 ∨ nI n ≤ z)
  · refine thr 1 (by decide) ?_ ?_ (by decide)
    · simp only [f_L_drop, f_X3_drop, o_0, Option.bind_some]
      rcases pt_or hn x with ⟨i, hi, rfl⟩ | hx
      · rcases pt_or hn y with ⟨j, hj, rfl⟩ | hy
        · rcases pt_or hn z with ⟨k, hk, rfl⟩ | hz
          · have := mp_n hn h0 c
            rw [mp_y hn h0 hi hj hk] at this
            exact absurd (Option.some.inj this) (by decide)
          · simp only [rp_y hn hC.1 hi, rp_y hn hC.1 hj, rp_n hC.1 hz, bindT, bindTW, if_true]
        · simp only [rp_y hn hC.1 hi, rp_n hC.1 hy, bindT, bindTW, if_true]
      · simp only [rp_n hC.1 hx, bindT, bindTW, if_true]
    · simp only [f_X4_drops, o_61, Option.bind_some, mp_n hn h0 c, if_true]
  · rcases pt_or hn x with ⟨i, hi, rfl⟩ | hx
    · rcases pt_or hn y with ⟨j, hj, rfl⟩ | hy
      · rcases pt_or hn z with ⟨k, hk, rfl⟩ | hz
        · by_cases c2 : i = j ∨ i = k ∨ j = k
          · refine thr 2 (by decide) ?_ ?_ (by decide)
            · simp only [f_L_drop, f_X3_drop, o_0, Option.bind_some, rp_y hn hC.1 hi, rp_y hn hC.1 hj, rp_y hn hC.1 hk, rd_n c2, bindT, bindTW, if_true, if_neg (show ¬ (0 : Nat) = 1 by decide)]
            · simp only [f_X4_drops, o_61, Option.bind_some, mp_y hn h0 hi hj hk, md_n c2, if_true, if_neg (show ¬ (1 : Int32) = 0 by decide)]
          · have h1 : i ≠ j := fun e => c2 (Or.inl e)
            have h2 : i ≠ k := fun e => c2 (Or.inr (Or.inl e))
            have h3 : j ≠ k := fun e => c2 (Or.inr (Or.inr e))
            have ht := num_lt hn hi hj hk h1 h2 h3
            have ek : m.I 11 (num n i j k) = s (3 + 4 * num n i j k + 1) := (hC.2.2.1.2.2.2.1 _ (by omega)).2.1
            by_cases c3 : s (3 + 4 * num n i j k + 1) = 1
            · obtain ⟨m1, e1, C1, u1⟩ := C_now hC b
              obtain ⟨m2, e2, r2, f2⟩ := c_take C1.2.2.1 hT (GG_noD b.1) ht
              refine W_ok (m1 := m2) (w := (sgn n s i j k).toInt64) ?_ (CC_now C1 (up4_le q b.2.1) f2 r2) (upC_tr u1 (upC_9 f2)) hD (BB_psh b (GG_take b.1)) (fun m3 hD3 => ?_)
              · simp (disch := omega) only [f_L_drop, f_X3_drop, o_0, g_0_0, g_0_1, g_0_2, g_0_3, g_0_4, g_0_5, g_0_6, g_0_7, g_0_8, g_0_9, g_0_10, g_0_11, o_1, g_1_0, g_1_1, g_1_2, g_1_3, g_1_4, g_1_5, g_1_6, g_1_7, g_1_8, g_1_9, r_2, r_3, r_4, r_5, r_6, r_7, r_8, o_9, g_9_0, g_9_1, g_9_2, g_9_3, g_9_4, g_9_5, g_9_6, g_9_7, g_9_8, g_9_9, r_10, r_11, r_12, r_13, r_14, r_15, r_16, o_17, g_17_0, g_17_1, g_17_2, g_17_3, g_17_4, r_18, r_19, r_20, r_22, r_23, r_24, r_25, r_26, r_27, r_28, o_29, g_29_0, g_29_1, g_29_2, g_29_3, g_29_4, g_29_5, g_29_6, g_29_7, g_29_8, g_29_9, r_30, r_31, r_32, r_33, r_34, r_35, r_36, o_37, g_37_0, g_37_1, g_37_2, g_37_3, g_37_4, g_37_5, g_37_6, g_37_7, g_37_8, g_37_9, r_38, r_39, r_40, r_41, r_42, r_43, r_44, o_45, g_45_0, g_45_1, g_45_2, g_45_3, g_45_4, g_45_5, g_45_6, g_45_7, g_45_8, g_45_9, r_46, r_47, r_48, r_49, r_50, r_51, r_52, o_53, g_53_0, g_53_1, g_53_2, g_53_3, g_53_4, g_53_5, g_53_6, g_53_7, g_53_8, g_53_9, r_54, r_55, r_56, r_57, r_58, r_59, r_60, o_61, g_61_0, g_61_1, g_61_2, g_61_3, g_61_4, g_61_5, g_61_6, g_61_7, g_61_8, g_61_9, g_61_10, g_61_11, g_61_12, g_61_13, g_61_14, g_61_15, g_61_16, g_61_17, g_61_18, g_61_19, g_61_20, g_61_21, g_61_22, g_61_23, r_62, r_63, r_64, r_65, r_66, r_67, r_68, r_69, r_70, r_71, r_72, r_73, r_74, r_75, r_76, r_77, Option.bind_some, rp_y hn hC.1 hi, rp_y hn hC.1 hj, rp_y hn hC.1 hk, rd_y hn hi hj hk h1 h2 h3, bindT, bindTW, cl_num hn hC.1 hi hj hk h1 h2 h3, ek, if_pos c3, cl_sgn hn hC.1 hC.2.2.1 hi hj hk, e1, e2, w77]
              · obtain ⟨m5, e5, D5, a5, u5⟩ := d_hold hD3
                have es := m_sgn hn D5.1 hi hj hk
                rw [D5.2.1] at es
                have ef := m_forgets m5 hT D5.1.1
                rw [D5.2.1] at ef
                have eg := get_1 m5 (t := num n i j k) (by omega)
                rw [D5.2.1] at eg
                have D6 : DD n (fgt (nT n) s) q P tl tx ((m5.rI 62 (fgt (nT n) s)).sI 61 12 (sgn n s i j k)) := DD_61 (DD_row D5) (by omega)
                have ec := m_clears ((m5.rI 62 (fgt (nT n) s)).sI 61 12 (sgn n s i j k)) (t := num n i j k) (by omega)
                rw [D6.2.1] at ec
                obtain ⟨m6, em6⟩ : ∃ m6, m6 = (((m5.rI 62 (fgt (nT n) s)).sI 61 12 (sgn n s i j k)).rI 62 (clr (num n i j k) (fgt (nT n) s))) := ⟨_, rfl⟩
                have a6 : AS s m6 := AS_f a5 (by rw [em6, rI_n _ _ (by omega), sI_I, if_neg (by omega), rI_n _ _ (by omega)])
                have e12 : m6.I 61 12 = sgn n s i j k := by rw [em6, rI_n _ _ (by omega), sI_at, if_pos rfl]
                have D7 : DD n (tkR (nT n) (num n i j k) s) q P tl tx m6 := by rw [em6]; exact DD_row D6
                rw [← em6] at ec
                obtain ⟨m7, e7, D8, z7, u7⟩ := d_ends D7 a6 b.2.1 (sgn n s i j k)
                have u6 : upM (m5.rI 62 (fgt (nT n) s)) m6 := by rw [em6]; exact upM_tr (s61 _ _ _) (r62 _ _)
                have ez : sgn n s i j k + (0 : Int32) * nI (many s 2 (nT n)) = sgn n s i j k := by rw [Int32.zero_mul, Int32.add_zero]
                refine ⟨_, m7, ?_, rfl, D8, z7, upM_tr u5 (upM_tr (r62 _ _) (upM_tr u6 u7))⟩
                simp only [f_X4_drop, f_X4_drops, f_X4_done, o_0, g_0_0, g_0_1, g_0_2, g_0_3, g_0_4, p_0_4, g_0_5, g_0_6, g_0_7, g_0_8, g_0_9, g_0_10, g_0_11, o_1, g_1_0, p_1_0, g_1_1, p_1_1, g_1_2, p_1_2, g_1_3, g_1_4, g_1_5, g_1_6, g_1_7, g_1_8, g_1_9, r_2, w_2, r_3, w_3, r_4, w_4, r_5, w_5, r_6, w_6, r_7, w_7, r_8, w_8, o_9, g_9_0, p_9_0, g_9_1, p_9_1, g_9_2, p_9_2, g_9_3, g_9_4, g_9_5, g_9_6, g_9_7, g_9_8, g_9_9, r_10, w_10, r_11, w_11, r_12, w_12, r_13, w_13, r_14, w_14, r_15, w_15, r_16, w_16, o_17, g_17_0, g_17_1, p_17_1, g_17_2, g_17_3, g_17_4, p_17_4, r_18, w_18, r_19, w_19, r_20, w_20, r_22, w_22, r_23, w_23, r_24, w_24, r_25, w_25, r_26, w_26, r_27, w_27, r_28, w_28, o_29, g_29_0, p_29_0, g_29_1, p_29_1, g_29_2, p_29_2, g_29_3, g_29_4, g_29_5, g_29_6, g_29_7, g_29_8, g_29_9, r_30, w_30, r_31, w_31, r_32, w_32, r_33, w_33, r_34, w_34, r_35, w_35, r_36, w_36, o_37, g_37_0, p_37_0, g_37_1, p_37_1, g_37_2, p_37_2, g_37_3, g_37_4, g_37_5, g_37_6, g_37_7, g_37_8, g_37_9, r_38, w_38, r_39, w_39, r_40, w_40, r_41, w_41, r_42, w_42, r_43, w_43, r_44, w_44, o_45, g_45_0, p_45_0, g_45_1, p_45_1, g_45_2, p_45_2, g_45_3, g_45_4, g_45_5, g_45_6, g_45_7, g_45_8, g_45_9, r_46, w_46, r_47, w_47, r_48, w_48, r_49, w_49, r_50, w_50, r_51, w_51, r_52, w_52, o_53, g_53_0, p_53_0, g_53_1, p_53_1, g_53_2, p_53_2, g_53_3, g_53_4, g_53_5, g_53_6, g_53_7, g_53_8, g_53_9, r_54, w_54, r_55, w_55, r_56, w_56, r_57, w_57, r_58, w_58, r_59, w_59, r_60, w_60, o_61, g_61_0, g_61_1, g_61_2, g_61_3, p_61_3, g_61_4, g_61_5, p_61_5, g_61_6, p_61_6, g_61_7, g_61_8, g_61_9, p_61_9, g_61_10, g_61_11, p_61_11, g_61_12, p_61_12, g_61_13, g_61_14, g_61_15, g_61_16, g_61_17, g_61_18, g_61_19, g_61_20, p_61_20, g_61_21, p_61_21, g_61_22, g_61_23, p_61_23, r_62, w_62, r_63, w_63, r_64, w_64, r_65, w_65, r_66, w_66, r_67, w_67, r_68, w_68, r_69, w_69, r_70, w_70, r_71, w_71, r_72, w_72, r_73, w_73, r_74, w_74, r_75, w_75, r_76, w_76, r_77, w_77, Option.bind_some, e5, mp_y hn (show m5.I 62 0 = nI n by rw [D5.2.1]; exact b.1.2.1) hi hj hk, md_y hn hi hj hk h1 h2 h3, if_neg (show ¬ (1 : Int32) = 0 by decide), m_num hn D5.1 hi hj hk h1 h2 h3, eg, if_pos c3, es, ef, bind2, ez, ec, if_pos (show (0 : Int32) ≤ 0 by decide), e12, e7]
            · refine thr 3 (by decide) ?_ ?_ (by decide)
              · simp (disch := omega) only [f_L_drop, f_X3_drop, o_0, g_0_0, g_0_1, g_0_2, g_0_3, g_0_4, g_0_5, g_0_6, g_0_7, g_0_8, g_0_9, g_0_10, g_0_11, o_1, g_1_0, g_1_1, g_1_2, g_1_3, g_1_4, g_1_5, g_1_6, g_1_7, g_1_8, g_1_9, r_2, r_3, r_4, r_5, r_6, r_7, r_8, o_9, g_9_0, g_9_1, g_9_2, g_9_3, g_9_4, g_9_5, g_9_6, g_9_7, g_9_8, g_9_9, r_10, r_11, r_12, r_13, r_14, r_15, r_16, o_17, g_17_0, g_17_1, g_17_2, g_17_3, g_17_4, r_18, r_19, r_20, r_22, r_23, r_24, r_25, r_26, r_27, r_28, o_29, g_29_0, g_29_1, g_29_2, g_29_3, g_29_4, g_29_5, g_29_6, g_29_7, g_29_8, g_29_9, r_30, r_31, r_32, r_33, r_34, r_35, r_36, o_37, g_37_0, g_37_1, g_37_2, g_37_3, g_37_4, g_37_5, g_37_6, g_37_7, g_37_8, g_37_9, r_38, r_39, r_40, r_41, r_42, r_43, r_44, o_45, g_45_0, g_45_1, g_45_2, g_45_3, g_45_4, g_45_5, g_45_6, g_45_7, g_45_8, g_45_9, r_46, r_47, r_48, r_49, r_50, r_51, r_52, o_53, g_53_0, g_53_1, g_53_2, g_53_3, g_53_4, g_53_5, g_53_6, g_53_7, g_53_8, g_53_9, r_54, r_55, r_56, r_57, r_58, r_59, r_60, o_61, g_61_0, g_61_1, g_61_2, g_61_3, g_61_4, g_61_5, g_61_6, g_61_7, g_61_8, g_61_9, g_61_10, g_61_11, g_61_12, g_61_13, g_61_14, g_61_15, g_61_16, g_61_17, g_61_18, g_61_19, g_61_20, g_61_21, g_61_22, g_61_23, r_62, r_63, r_64, r_65, r_66, r_67, r_68, r_69, r_70, r_71, r_72, r_73, r_74, r_75, r_76, r_77, Option.bind_some, rp_y hn hC.1 hi, rp_y hn hC.1 hj, rp_y hn hC.1 hk, rd_y hn hi hj hk h1 h2 h3, bindT, bindTW, cl_num hn hC.1 hi hj hk h1 h2 h3, ek, if_neg c3, if_true, if_neg (show ¬ (2 : Nat) = 1 by decide), if_neg (show ¬ (2 : Nat) = 0 by decide)]
              · have eg := get_1 m4 (t := num n i j k) (by omega)
                rw [D4.2.1] at eg
                simp only [f_X4_drops, o_61, Option.bind_some, mp_y hn h0 hi hj hk, md_y hn hi hj hk h1 h2 h3, if_neg (show ¬ (1 : Int32) = 0 by decide), m_num hn D4.1 hi hj hk h1 h2 h3, eg, if_neg c3]
        · exact absurd (Or.inr (Or.inr hz)) c
      · exact absurd (Or.inr (Or.inl hy)) c
    · exact absurd (Or.inl hx) c
end Points
