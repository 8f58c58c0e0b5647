/-! the undoable calls: drop, give, setUniform, derive, forget, mirror, turn -/
section Undoable
variable {n : Nat} {s : Nat → Int32} {M : Nat → Int64} {q : Nat} {P : Nat → Nat → Int32} {PM : Nat → Nat → Int64} {tl : Nat} {tx : Nat → Int32} {m : Mem}
theorem DD_f {m1 : Mem} (h : DD n s q P tl tx m) (f : Fr cT m m1) {s' : Nat → Int32} (e : m1.I 62 = s') : DD n s' q P tl tx m1 := DD_w h (fun k _ => by rw [(f.1 61 (by unfold cT; omega)).1]) (fun a h1 h2 h3 => (f.1 a (by unfold cT; omega)).1) e
theorem up_T {m1 : Mem} (f : Fr cT m m1) : upM m m1 := upM_fr f (fun a h => by unfold cT at h; omega)
theorem AS_f {m1 : Mem} {s0 : Nat → Int32} (h : AS s0 m) (e : m1.I 64 = m.I 64) : AS s0 m1 := by
  unfold AS
  rw [e]
  exact h
theorem k_derive (hi : INV m) : okN (f_X3_derive 0) (f_X4_derive 61) m := by
  obtain ⟨n, s, M, q, P, PM, tl, tx, hC, hD, b⟩ := INV_out hi
  obtain ⟨s', M', v, g', hc, hm⟩ := d_derive b.1
  obtain ⟨m1, e1, C1, u1⟩ := C_now hC b
  obtain ⟨m2, e2, r2, f2⟩ := hc m1 C1.1 C1.2.2.1
  refine N_ok (v := v) (m1 := m2) ?_ (CC_now C1 (up4_le q b.2.1) f2 r2) (upC_tr u1 (upC_9 f2)) hD (BB_psh b g') (fun m3 hD3 => ?_)
  · simp only [f_X3_derive, o_0, Option.bind_some, e1, e2, bind2]
  · obtain ⟨m4, e4, D4, a4, u4⟩ := d_hold hD3
    obtain ⟨m5, e5, r5, f5⟩ := hm m4 D4.1 D4.2.1
    obtain ⟨m6, e6, D6, z6, u6⟩ := d_ends (DD_f D4 f5 r5) (AS_f a4 (f5.1 64 (by unfold cT; omega)).1) b.2.1 v
    refine ⟨m6, ?_, D6, upM_tr u4 (upM_tr (up_T f5) u6)⟩
    simp only [f_X4_derive, o_61, Option.bind_some, e4, e5, e6, bind2]
theorem k_forget (hi : INV m) : okN (f_X3_forget 0) (f_X4_forget 61) m := by
  obtain ⟨n, s, M, q, P, PM, tl, tx, hC, hD, b⟩ := INV_out hi
  have hT := nT_le b.1.1
  obtain ⟨m1, e1, C1, u1⟩ := C_now hC b
  obtain ⟨m2, e2, r2, f2⟩ := c9_forget C1.2.2.1 hT (GG_noD b.1)
  refine N_ok (v := nI (many s 2 (nT n))) (m1 := m2) ?_ (CC_now C1 (up4_le q b.2.1) f2 r2) (upC_tr u1 (upC_9 f2)) hD (BB_psh b (GG_fgt b.1).1) (fun m3 hD3 => ?_)
  · simp only [f_X3_forget, o_0, g_0_0, g_0_1, g_0_2, g_0_3, g_0_4, g_0_5, g_0_6, g_0_7, g_0_8, g_0_9, g_0_10, g_0_11, o_1, g_1_0, g_1_1, g_1_2, g_1_3, g_1_4, g_1_5, g_1_6, g_1_7, g_1_8, g_1_9, r_2, r_3, r_4, r_5, r_6, r_7, r_8, o_9, g_9_0, g_9_1, g_9_2, g_9_3, g_9_4, g_9_5, g_9_6, g_9_7, g_9_8, g_9_9, r_10, r_11, r_12, r_13, r_14, r_15, r_16, o_17, g_17_0, g_17_1, g_17_2, g_17_3, g_17_4, r_18, r_19, r_20, r_22, r_23, r_24, r_25, r_26, r_27, r_28, o_29, g_29_0, g_29_1, g_29_2, g_29_3, g_29_4, g_29_5, g_29_6, g_29_7, g_29_8, g_29_9, r_30, r_31, r_32, r_33, r_34, r_35, r_36, o_37, g_37_0, g_37_1, g_37_2, g_37_3, g_37_4, g_37_5, g_37_6, g_37_7, g_37_8, g_37_9, r_38, r_39, r_40, r_41, r_42, r_43, r_44, o_45, g_45_0, g_45_1, g_45_2, g_45_3, g_45_4, g_45_5, g_45_6, g_45_7, g_45_8, g_45_9, r_46, r_47, r_48, r_49, r_50, r_51, r_52, o_53, g_53_0, g_53_1, g_53_2, g_53_3, g_53_4, g_53_5, g_53_6, g_53_7, g_53_8, g_53_9, r_54, r_55, r_56, r_57, r_58, r_59, r_60, o_61, g_61_0, g_61_1, g_61_2, g_61_3, g_61_4, g_61_5, g_61_6, g_61_7, g_61_8, g_61_9, g_61_10, g_61_11, g_61_12, g_61_13, g_61_14, g_61_15, g_61_16, g_61_17, g_61_18, g_61_19, g_61_20, g_61_21, g_61_22, g_61_23, r_62, r_63, r_64, r_65, r_66, r_67, r_68, r_69, r_70, r_71, r_72, r_73, r_74, r_75, r_76, r_77, Option.bind_some, e1, e2, bind2]
  · obtain ⟨m4, e4, D4, a4, u4⟩ := d_hold hD3
    have e5 := m_forgets m4 hT D4.1.1
    rw [D4.2.1] at e5
    obtain ⟨m6, e6, D6, z6, u6⟩ := d_ends (DD_row (s' := fgt (nT n) s) D4) a4 b.2.1 (nI (many s 2 (nT n)))
    refine ⟨m6, ?_, D6, upM_tr u4 (upM_tr (r62 m4 _) u6)⟩
    simp only [f_X4_forget, o_61, Option.bind_some, e4, e5, e6, bind2]
theorem k_mirror (hi : INV m) : okN (f_X3_mirror 0) (f_X4_mirror 61) m := by
  obtain ⟨n, s, M, q, P, PM, tl, tx, hC, hD, b⟩ := INV_out hi
  have hT := nT_le b.1.1
  obtain ⟨m1, e1, C1, u1⟩ := C_now hC b
  obtain ⟨m2, e2, r2, f2⟩ := c_negate b.1.1 C1.1 C1.2.2.1
  refine N_ok (v := nI (cnp (fun _ => True) s (nT n))) (m1 := m2) ?_ (CC_now C1 (up4_le q b.2.1) f2 r2) (upC_tr u1 (upC_9 f2)) hD (BB_psh b (GG_flip b.1 (fun _ => True))) (fun m3 hD3 => ?_)
  · simp only [f_X3_mirror, o_0, g_0_0, g_0_1, g_0_2, g_0_3, g_0_4, g_0_5, g_0_6, g_0_7, g_0_8, g_0_9, g_0_10, g_0_11, o_1, g_1_0, g_1_1, g_1_2, g_1_3, g_1_4, g_1_5, g_1_6, g_1_7, g_1_8, g_1_9, r_2, r_3, r_4, r_5, r_6, r_7, r_8, o_9, g_9_0, g_9_1, g_9_2, g_9_3, g_9_4, g_9_5, g_9_6, g_9_7, g_9_8, g_9_9, r_10, r_11, r_12, r_13, r_14, r_15, r_16, o_17, g_17_0, g_17_1, g_17_2, g_17_3, g_17_4, r_18, r_19, r_20, r_22, r_23, r_24, r_25, r_26, r_27, r_28, o_29, g_29_0, g_29_1, g_29_2, g_29_3, g_29_4, g_29_5, g_29_6, g_29_7, g_29_8, g_29_9, r_30, r_31, r_32, r_33, r_34, r_35, r_36, o_37, g_37_0, g_37_1, g_37_2, g_37_3, g_37_4, g_37_5, g_37_6, g_37_7, g_37_8, g_37_9, r_38, r_39, r_40, r_41, r_42, r_43, r_44, o_45, g_45_0, g_45_1, g_45_2, g_45_3, g_45_4, g_45_5, g_45_6, g_45_7, g_45_8, g_45_9, r_46, r_47, r_48, r_49, r_50, r_51, r_52, o_53, g_53_0, g_53_1, g_53_2, g_53_3, g_53_4, g_53_5, g_53_6, g_53_7, g_53_8, g_53_9, r_54, r_55, r_56, r_57, r_58, r_59, r_60, o_61, g_61_0, g_61_1, g_61_2, g_61_3, g_61_4, g_61_5, g_61_6, g_61_7, g_61_8, g_61_9, g_61_10, g_61_11, g_61_12, g_61_13, g_61_14, g_61_15, g_61_16, g_61_17, g_61_18, g_61_19, g_61_20, g_61_21, g_61_22, g_61_23, r_62, r_63, r_64, r_65, r_66, r_67, r_68, r_69, r_70, r_71, r_72, r_73, r_74, r_75, r_76, r_77, Option.bind_some, e1, e2, bind2]
  · obtain ⟨m4, e4, D4, a4, u4⟩ := d_hold hD3
    have e5 := m_flips0 b.1.1 D4.1 (M := M) (by rw [D4.2.1]; exact b.1.2.2.2)
    rw [D4.2.1] at e5
    obtain ⟨m6, e6, D6, z6, u6⟩ := d_ends (DD_row (s' := flp (fun _ => True) s (nT n)) D4) a4 b.2.1 (nI (cnp (fun _ => True) s (nT n)))
    refine ⟨m6, ?_, D6, upM_tr u4 (upM_tr (r62 m4 _) u6)⟩
    simp only [f_X4_mirror, o_61, Option.bind_some, e4, e5, e6, bind2]
theorem k_turn (hi : INV m) (x : Int32) : okW (f_L_turn 0 x 77) (f_X4_turn 61 x) m := by
  obtain ⟨n, s, M, q, P, PM, tl, tx, hC, hD, b⟩ := INV_out hi
  have hn := b.1.1
  have hT := nT_le hn
  rcases pt_or hn x with ⟨j, hj, rfl⟩ | hx
  · obtain ⟨m1, e1, C1, u1⟩ := C_now hC b
    obtain ⟨m2, e2, r2, f2⟩ := c_turn hn C1.1 C1.2.2.1 hj
    refine W_ok (m1 := m2) (w := (nI (cnp (fun t => cor n t 0 = j ∨ cor n t 1 = j ∨ cor n t 2 = j) s (nT n))).toInt64) ?_ (CC_now C1 (up4_le q b.2.1) f2 r2) (upC_tr u1 (upC_9 f2)) hD (BB_psh b (GG_flip b.1 (fun t => cor n t 0 = j ∨ cor n t 1 = j ∨ cor n t 2 = j))) (fun m3 hD3 => ?_)
    · simp only [f_L_turn, f_X3_turn, o_0, Option.bind_some, rp_y hn hC.1 hj, bindT, bindTW, e1, e2, bind2, w77]
    · obtain ⟨m4, e4, D4, a4, u4⟩ := d_hold hD3
      have e5 := m_flips1 hn D4.1 (M := M) (by rw [D4.2.1]; exact b.1.2.2.2) hj
      rw [D4.2.1] at e5
      obtain ⟨m6, e6, D6, z6, u6⟩ := d_ends (DD_row (s' := flp (fun t => cor n t 0 = j ∨ cor n t 1 = j ∨ cor n t 2 = j) s (nT n)) D4) a4 b.2.1 (nI (cnp (fun t => cor n t 0 = j ∨ cor n t 1 = j ∨ cor n t 2 = j) s (nT n)))
      refine ⟨_, m6, ?_, rfl, D6, z6, upM_tr u4 (upM_tr (r62 m4 _) u6)⟩
      simp only [f_X4_turn, o_61, Option.bind_some, m_isP hn (by rw [hD3.2.1]; exact b.1.2.1) hj, if_neg (show ¬ (1 : Int32) = 0 by decide), e4, e5, e6, bind2]
  · refine W_thr (k := 1) (by decide) ?_ hC b ⟨0, _, ?_, fl hD 1⟩
    · simp only [f_L_turn, f_X3_turn, o_0, Option.bind_some, rp_n hC.1 hx, bindT, bindTW, if_true]
    · simp only [f_X4_turn, o_61, Option.bind_some, m_noP hn (by rw [hD.2.1]; exact b.1.2.1) hx, if_true, m_fails, bind2]
end Undoable
