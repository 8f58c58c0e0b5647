/-! exchange, place, coordinate -/
section Place
variable {m : Mem}
theorem k_exchange (hi : INV m) (x y : Int32) : okW (f_L_exchange 0 x y 77) (f_X4_exchange 61 x y) m := by
  obtain ⟨n, s, M, q, P, PM, tl, tx, hC, hD, b⟩ := INV_out hi
  have hn := b.1.1
  have hT := nT_le hn
  have h8 := hn.2
  have h0 : m.I 62 0 = nI n := by rw [hD.2.1]; exact b.1.2.1
  have n0 : ¬ (1 : Int32) = 0 := by decide
  rcases pt_or hn x with ⟨i, hi, rfl⟩ | hx
  · rcases pt_or hn y with ⟨j, hj, rfl⟩ | hy
    · by_cases c : i = j
      · refine W_thr (k := 2) (by decide) ?_ hC b ⟨0, _, ?_, fl hD 2⟩
        · simp only [f_L_exchange, f_X3_exchange, o_0, Option.bind_some, rp_y hn hC.1 hi, rp_y hn hC.1 hj, bindT, bindTW, c, if_true, if_neg (show ¬ (0 : Nat) = 1 by decide)]
        · simp only [f_X4_exchange, o_61, Option.bind_some, m_isP hn h0 hi, m_isP hn h0 hj, if_neg n0, c, if_true, m_fails, bind2]
      · have cI : ¬ nI i = nI j := fun e => c ((ne_of hn hi hj).mp e)
        obtain ⟨gf, nf⟩ := GG_fgt b.1
        obtain ⟨gx, nx⟩ := GG_xch gf nf (v := exv n (fgt (nT n) s) i j) (fun t ht => sgn_ok hn (GG_ok gf) (ex_lt hi hj (cor_lt hn t ht 0 (by omega))) (ex_lt hi hj (cor_lt hn t ht 1 (by omega))) (ex_lt hi hj (cor_lt hn t ht 2 (by omega)))) (nT n) (Nat.le_refl _)
        obtain ⟨R, eR⟩ : ∃ R, R = xyR i j (xch (exv n (fgt (nT n) s) i j) (fgt (nT n) s) (nT n)) := ⟨_, rfl⟩
        have gR : GG n R (xchM (exv n (fgt (nT n) s) i j) (fgtM s M) (nT n)) := by
          rw [eR]
          refine GG_hi gx (fun k hk => ?_)
          unfold xyR
          rw [upd_g, if_neg (by omega), upd_g, if_neg (by omega), upd_g, if_neg (by omega), upd_g, if_neg (by omega)]
        obtain ⟨m1, e1, C1, u1⟩ := C_now hC b
        obtain ⟨m2, e2, r2, f2⟩ := c9_forget C1.2.2.1 hT (GG_noD b.1)
        have L2 := LC_9 C1.1 f2
        obtain ⟨m3, e3, v3, f3⟩ := c_exs hn L2 r2 hi hj
        have f3x : Fr cX m2 m3 := Fr_w (d := cX) f3 (fun a h => by unfold cC at h; unfold cX; omega)
        have L3 := LC_x L2 f3x
        have r3 : RS 9 m3 (fgt (nT n) s) (fgtM s M) := RS_of r2 (fun a ha => f3.1 a (by unfold cS at ha; unfold cC; omega))
        obtain ⟨m4, e4, r4, f4⟩ := c_exw hn L3 r3 v3
        obtain ⟨m5, e5, r5, f5⟩ := c_xy r4 (show i < 8 by omega) (show j < 8 by omega) c
        rw [← eR] at r5
        have L5 := LC_9 (LC_9 L3 f4) f5
        have C2 := CC_now C1 (up4_le q b.2.1) f2 r2
        have C3 := CC_scr C2 (up4_le q b.2.1) f3x
        have C5 := CC_now C3 (up4_le q b.2.1) (Fr_tr f4 f5) r5
        have U : upC m m5 := upC_tr u1 (upC_tr (upC_9 f2) (upC_tr (upC_fr f3 (fun a h => by unfold cC at h; omega)) (upC_tr (upC_9 f4) (upC_9 f5))))
        refine W_ok (m1 := m5) (w := (nI (many R 1 (nT n))).toInt64) ?_ C5 U hD (BB_psh b gR) (fun m6 hD6 => ?_)
        · simp only [f_L_exchange, f_X3_exchange, f_X3_exchangeSigns, o_0, g_0_0, g_0_1, g_0_2, g_0_3, g_0_4, g_0_5, g_0_6, g_0_7, g_0_8, g_0_9, g_0_10, g_0_11, o_1, g_1_0, g_1_1, g_1_2, g_1_3, g_1_4, g_1_5, g_1_6, g_1_7, g_1_8, g_1_9, r_2, r_3, r_4, r_5, r_6, r_7, r_8, o_9, g_9_0, g_9_1, g_9_2, g_9_3, g_9_4, g_9_5, g_9_6, g_9_7, g_9_8, g_9_9, r_10, r_11, r_12, r_13, r_14, r_15, r_16, o_17, g_17_0, g_17_1, g_17_2, g_17_3, g_17_4, r_18, r_19, r_20, r_22, r_23, r_24, r_25, r_26, r_27, r_28, o_29, g_29_0, g_29_1, g_29_2, g_29_3, g_29_4, g_29_5, g_29_6, g_29_7, g_29_8, g_29_9, r_30, r_31, r_32, r_33, r_34, r_35, r_36, o_37, g_37_0, g_37_1, g_37_2, g_37_3, g_37_4, g_37_5, g_37_6, g_37_7, g_37_8, g_37_9, r_38, r_39, r_40, r_41, r_42, r_43, r_44, o_45, g_45_0, g_45_1, g_45_2, g_45_3, g_45_4, g_45_5, g_45_6, g_45_7, g_45_8, g_45_9, r_46, r_47, r_48, r_49, r_50, r_51, r_52, o_53, g_53_0, g_53_1, g_53_2, g_53_3, g_53_4, g_53_5, g_53_6, g_53_7, g_53_8, g_53_9, r_54, r_55, r_56, r_57, r_58, r_59, r_60, o_61, g_61_0, g_61_1, g_61_2, g_61_3, g_61_4, g_61_5, g_61_6, g_61_7, g_61_8, g_61_9, g_61_10, g_61_11, g_61_12, g_61_13, g_61_14, g_61_15, g_61_16, g_61_17, g_61_18, g_61_19, g_61_20, g_61_21, g_61_22, g_61_23, r_62, r_63, r_64, r_65, r_66, r_67, r_68, r_69, r_70, r_71, r_72, r_73, r_74, r_75, r_76, r_77, Option.bind_some, rp_y hn hC.1 hi, rp_y hn hC.1 hj, bindT, bindTW, if_neg cI, e1, e2, bind2, e3, e4, e5, L5.2.1, s9_count m5 r5 1 hT, w77]
        · obtain ⟨m7, e7, D7, a7, u7⟩ := d_hold hD6
          have ef := m_forgets m7 hT D7.1.1
          rw [D7.2.1] at ef
          have D8 : DD n (fgt (nT n) s) q P tl tx (m7.rI 62 (fgt (nT n) s)) := DD_row D7
          obtain ⟨m9, e9, v9, f9⟩ := m_exs hn D8.1 hi hj
          rw [D8.2.1] at v9
          have D9 : DD n (fgt (nT n) s) q P tl tx m9 := DD_fr D8 f9 (fun a h => by unfold cC at h; omega)
          have e10 := m_exw hn D9.1 v9
          rw [D9.2.1] at e10
          have e11 := m_xy (m9.rI 62 (xch (exv n (fgt (nT n) s) i j) (fgt (nT n) s) (nT n))) (show i < 8 by omega) (show j < 8 by omega) c
          rw [rI_I, rI_rI, ← eR] at e11
          have D11 : DD n R q P tl tx (m9.rI 62 R) := DD_row D9
          have e12 := m_many (m9.rI 62 R) 1 hT D11.1.1
          rw [rI_I] at e12
          have a11 : AS s (m9.rI 62 R) := AS_f a7 (by rw [rI_n _ _ (by omega), (f9.1 64 (by unfold cC; omega)).1, rI_n _ _ (by omega)])
          obtain ⟨m13, e13, D13, z13, u13⟩ := d_ends D11 a11 b.2.1 (nI (many R 1 (nT n)))
          have hp : (0 : Int32) ≤ nI (many s 2 (nT n)) := le_nlt (nI_pos (by have := cntN_le (fun t => s (3 + 4 * t + 1) = 2) (nT n); unfold many; omega))
          refine ⟨_, m13, ?_, rfl, D13, z13, upM_tr u7 (upM_tr (r62 _ _) (upM_tr (upM_fr f9 (fun a h => by unfold cC at h; omega)) (upM_tr (r62 _ _) u13)))⟩
          have h60 : m6.I 62 0 = nI n := by rw [hD6.2.1]; exact b.1.2.1
          simp only [f_X4_exchange, o_61, Option.bind_some, m_isP hn h60 hi, m_isP hn h60 hj, if_neg n0, if_neg cI, e7, ef, bind2, e9, e10, e11, if_pos hp, e12, e13]
    · refine W_thr (k := 1) (by decide) ?_ hC b ⟨0, _, ?_, fl hD 1⟩
      · simp only [f_L_exchange, f_X3_exchange, o_0, Option.bind_some, rp_y hn hC.1 hi, rp_n hC.1 hy, bindT, bindTW, if_true]
      · simp only [f_X4_exchange, o_61, Option.bind_some, m_isP hn h0 hi, m_noP hn h0 hy, if_neg n0, if_true, m_fails, bind2]
  · refine W_thr (k := 1) (by decide) ?_ hC b ⟨0, _, ?_, fl hD 1⟩
    · simp only [f_L_exchange, f_X3_exchange, o_0, Option.bind_some, rp_n hC.1 hx, bindT, bindTW, if_true]
    · simp only [f_X4_exchange, o_61, Option.bind_some, m_noP hn h0 hx, if_true, m_fails, bind2]
/-- the answer yes or no -/
def no0 (x : Int32) : Int32 := if x = -100 then 0 else 1
theorem no0_e (x : Int32) : (if x = -100 then some (0 : Int32) else some 1) = some (no0 x) := by
  unfold no0
  split <;> rfl
theorem no0_01 (x : Int32) : no0 x = 0 ∨ no0 x = 1 := by
  unfold no0
  split
  · exact Or.inl rfl
  · exact Or.inr rfl
theorem k_place (hi : INV m) (p x y : Int32) : okW (f_L_place 0 p x y 77) (f_X4_place 61 p x y) m := by
  obtain ⟨n, s, M, q, P, PM, tl, tx, hC, hD, b⟩ := INV_out hi
  have hn := b.1.1
  have h8 := hn.2
  have h0 : m.I 62 0 = nI n := by rw [hD.2.1]; exact b.1.2.1
  have n0 : ¬ (1 : Int32) = 0 := by decide
  rcases pt_or hn p with ⟨i, hi, rfl⟩ | hp
  · by_cases c1 : x < -50
    · refine W_thr (k := 2) (by decide) ?_ hC b ⟨0, _, ?_, fl hD 2⟩
      · simp only [f_L_place, f_X3_place, o_0, Option.bind_some, rp_y hn hC.1 hi, bindT, bindTW, if_pos c1, if_true, if_neg (show ¬ (0 : Nat) = 1 by decide)]
      · simp only [f_X4_place, o_61, Option.bind_some, m_isP hn h0 hi, if_neg n0, in_n (Or.inl c1), if_true, m_fails, bind2]
    · by_cases c2 : 50 < x
      · refine W_thr (k := 2) (by decide) ?_ hC b ⟨0, _, ?_, fl hD 2⟩
        · simp only [f_L_place, f_X3_place, o_0, Option.bind_some, rp_y hn hC.1 hi, bindT, bindTW, if_neg c1, if_pos c2, if_true, if_neg (show ¬ (0 : Nat) = 1 by decide)]
        · simp only [f_X4_place, o_61, Option.bind_some, m_isP hn h0 hi, if_neg n0, in_n (Or.inr c2), if_true, m_fails, bind2]
      · by_cases c3 : y < -50
        · refine W_thr (k := 2) (by decide) ?_ hC b ⟨0, _, ?_, fl hD 2⟩
          · simp only [f_L_place, f_X3_place, o_0, Option.bind_some, rp_y hn hC.1 hi, bindT, bindTW, if_neg c1, if_neg c2, if_pos c3, if_true, if_neg (show ¬ (0 : Nat) = 1 by decide)]
          · simp only [f_X4_place, o_61, Option.bind_some, m_isP hn h0 hi, if_neg n0, in_y c1 c2, in_n (Or.inl c3), if_true, m_fails, bind2]
        · by_cases c4 : 50 < y
          · refine W_thr (k := 2) (by decide) ?_ hC b ⟨0, _, ?_, fl hD 2⟩
            · simp only [f_L_place, f_X3_place, o_0, Option.bind_some, rp_y hn hC.1 hi, bindT, bindTW, if_neg c1, if_neg c2, if_neg c3, if_neg (nle_lt c4), if_true, if_neg (show ¬ (0 : Nat) = 1 by decide)]
            · simp only [f_X4_place, o_61, Option.bind_some, m_isP hn h0 hi, if_neg n0, in_y c1 c2, in_n (Or.inr c4), if_true, m_fails, bind2]
          · obtain ⟨m1, e1, C1, u1⟩ := C_now hC b
            obtain ⟨r2, f2⟩ := RS_x C1.2.2.1 (show i < 8 by omega) x
            obtain ⟨r3, f3⟩ := RS_y r2 (show i < 8 by omega) y
            have ex : m.I 15 i = s (227 + 2 * i) := (hC.2.2.1.2.2.2.2 i (by omega)).1
            have eg : gB (no0 (s (227 + 2 * i))) = some () := if_pos (no0_01 _)
            refine W_ok (m1 := (m1.sI 15 i x).sI 16 i y) (w := (no0 (s (227 + 2 * i))).toInt64) ?_ (CC_now C1 (up4_le q b.2.1) (Fr_tr f2 f3) r3) (upC_tr u1 (upC_9 (Fr_tr f2 f3))) hD (BB_psh b (GG_hi b.1 (fun k hk => by rw [upd_g, if_neg (by omega), upd_g, if_neg (by omega)]))) (fun m3 hD3 => ?_)
            · simp (disch := omega) only [f_L_place, f_X3_place, o_0, g_0_0, g_0_1, g_0_2, g_0_3, g_0_4, p_0_4, g_0_5, g_0_6, g_0_7, g_0_8, g_0_9, g_0_10, g_0_11, o_1, g_1_0, p_1_0, g_1_1, p_1_1, g_1_2, p_1_2, g_1_3, g_1_4, g_1_5, g_1_6, g_1_7, g_1_8, g_1_9, r_2, w_2, r_3, w_3, r_4, w_4, r_5, w_5, r_6, w_6, r_7, w_7, r_8, w_8, o_9, g_9_0, p_9_0, g_9_1, p_9_1, g_9_2, p_9_2, g_9_3, g_9_4, g_9_5, g_9_6, g_9_7, g_9_8, g_9_9, r_10, w_10, r_11, w_11, r_12, w_12, r_13, w_13, r_14, w_14, r_15, w_15, r_16, w_16, o_17, g_17_0, g_17_1, p_17_1, g_17_2, g_17_3, g_17_4, p_17_4, r_18, w_18, r_19, w_19, r_20, w_20, r_22, w_22, r_23, w_23, r_24, w_24, r_25, w_25, r_26, w_26, r_27, w_27, r_28, w_28, o_29, g_29_0, p_29_0, g_29_1, p_29_1, g_29_2, p_29_2, g_29_3, g_29_4, g_29_5, g_29_6, g_29_7, g_29_8, g_29_9, r_30, w_30, r_31, w_31, r_32, w_32, r_33, w_33, r_34, w_34, r_35, w_35, r_36, w_36, o_37, g_37_0, p_37_0, g_37_1, p_37_1, g_37_2, p_37_2, g_37_3, g_37_4, g_37_5, g_37_6, g_37_7, g_37_8, g_37_9, r_38, w_38, r_39, w_39, r_40, w_40, r_41, w_41, r_42, w_42, r_43, w_43, r_44, w_44, o_45, g_45_0, p_45_0, g_45_1, p_45_1, g_45_2, p_45_2, g_45_3, g_45_4, g_45_5, g_45_6, g_45_7, g_45_8, g_45_9, r_46, w_46, r_47, w_47, r_48, w_48, r_49, w_49, r_50, w_50, r_51, w_51, r_52, w_52, o_53, g_53_0, p_53_0, g_53_1, p_53_1, g_53_2, p_53_2, g_53_3, g_53_4, g_53_5, g_53_6, g_53_7, g_53_8, g_53_9, r_54, w_54, r_55, w_55, r_56, w_56, r_57, w_57, r_58, w_58, r_59, w_59, r_60, w_60, o_61, g_61_0, g_61_1, g_61_2, g_61_3, p_61_3, g_61_4, g_61_5, p_61_5, g_61_6, p_61_6, g_61_7, g_61_8, g_61_9, p_61_9, g_61_10, g_61_11, p_61_11, g_61_12, p_61_12, g_61_13, g_61_14, g_61_15, g_61_16, g_61_17, g_61_18, g_61_19, g_61_20, p_61_20, g_61_21, p_61_21, g_61_22, g_61_23, p_61_23, r_62, w_62, r_63, w_63, r_64, w_64, r_65, w_65, r_66, w_66, r_67, w_67, r_68, w_68, r_69, w_69, r_70, w_70, r_71, w_71, r_72, w_72, r_73, w_73, r_74, w_74, r_75, w_75, r_76, w_76, r_77, w_77, Option.bind_some, rp_y hn hC.1 hi, bindT, bindTW, if_neg c1, if_neg c2, if_neg c3, if_pos (le_nlt c4), ex, no0_e, e1, eg, w77]
              rcases no0_01 (s (227 + 2 * i)) with e | e <;> rw [e] <;> rfl
            · obtain ⟨m5, e5, D5, a5, u5⟩ := d_hold hD3
              have h30 : m3.I 62 0 = nI n := by rw [hD3.2.1]; exact b.1.2.1
              obtain ⟨m6, em6⟩ : ∃ m6, m6 = m5.rI 62 (upd (upd s (227 + 2 * i) x) (227 + 2 * i + 1) y) := ⟨_, rfl⟩
              have ew : (m5.sI 62 (227 + 2 * i) x).sI 62 (227 + 2 * i + 1) y = m6 := by
                rw [em6, sI_r m5, rI_sI, D5.2.1]
              obtain ⟨m7, e7, D7, z7, u7⟩ := d_ends (by rw [em6]; exact DD_row D5 : DD n (upd (upd s (227 + 2 * i) x) (227 + 2 * i + 1) y) q P tl tx m6) (AS_f a5 (by rw [em6, rI_n _ _ (by omega)])) b.2.1 (no0 (s (227 + 2 * i)))
              refine ⟨no0 (s (227 + 2 * i)), m7, ?_, rfl, D7, z7, upM_tr u5 (upM_tr (by rw [em6]; exact r62 _ _) u7)⟩
              have es : m5.I 62 (227 + 2 * i) = s (227 + 2 * i) := by rw [D5.2.1]
              have e01 : (if no0 (s (227 + 2 * i)) = 0 then some (0 : Int32) else some 1) = some (no0 (s (227 + 2 * i))) := by
                rcases no0_01 (s (227 + 2 * i)) with e | e <;> rw [e] <;> rfl
              simp (disch := omega) only [f_X4_place, f_X4_isPlaced, show (227 : Int32) = nI 227 from rfl, show (2 : Int32) = nI 2 from rfl, pk_mul, nI_add, add_1, o_0, g_0_0, g_0_1, g_0_2, g_0_3, g_0_4, p_0_4, g_0_5, g_0_6, g_0_7, g_0_8, g_0_9, g_0_10, g_0_11, o_1, g_1_0, p_1_0, g_1_1, p_1_1, g_1_2, p_1_2, g_1_3, g_1_4, g_1_5, g_1_6, g_1_7, g_1_8, g_1_9, r_2, w_2, r_3, w_3, r_4, w_4, r_5, w_5, r_6, w_6, r_7, w_7, r_8, w_8, o_9, g_9_0, p_9_0, g_9_1, p_9_1, g_9_2, p_9_2, g_9_3, g_9_4, g_9_5, g_9_6, g_9_7, g_9_8, g_9_9, r_10, w_10, r_11, w_11, r_12, w_12, r_13, w_13, r_14, w_14, r_15, w_15, r_16, w_16, o_17, g_17_0, g_17_1, p_17_1, g_17_2, g_17_3, g_17_4, p_17_4, r_18, w_18, r_19, w_19, r_20, w_20, r_22, w_22, r_23, w_23, r_24, w_24, r_25, w_25, r_26, w_26, r_27, w_27, r_28, w_28, o_29, g_29_0, p_29_0, g_29_1, p_29_1, g_29_2, p_29_2, g_29_3, g_29_4, g_29_5, g_29_6, g_29_7, g_29_8, g_29_9, r_30, w_30, r_31, w_31, r_32, w_32, r_33, w_33, r_34, w_34, r_35, w_35, r_36, w_36, o_37, g_37_0, p_37_0, g_37_1, p_37_1, g_37_2, p_37_2, g_37_3, g_37_4, g_37_5, g_37_6, g_37_7, g_37_8, g_37_9, r_38, w_38, r_39, w_39, r_40, w_40, r_41, w_41, r_42, w_42, r_43, w_43, r_44, w_44, o_45, g_45_0, p_45_0, g_45_1, p_45_1, g_45_2, p_45_2, g_45_3, g_45_4, g_45_5, g_45_6, g_45_7, g_45_8, g_45_9, r_46, w_46, r_47, w_47, r_48, w_48, r_49, w_49, r_50, w_50, r_51, w_51, r_52, w_52, o_53, g_53_0, p_53_0, g_53_1, p_53_1, g_53_2, p_53_2, g_53_3, g_53_4, g_53_5, g_53_6, g_53_7, g_53_8, g_53_9, r_54, w_54, r_55, w_55, r_56, w_56, r_57, w_57, r_58, w_58, r_59, w_59, r_60, w_60, o_61, g_61_0, g_61_1, g_61_2, g_61_3, p_61_3, g_61_4, g_61_5, p_61_5, g_61_6, p_61_6, g_61_7, g_61_8, g_61_9, p_61_9, g_61_10, g_61_11, p_61_11, g_61_12, p_61_12, g_61_13, g_61_14, g_61_15, g_61_16, g_61_17, g_61_18, g_61_19, g_61_20, p_61_20, g_61_21, p_61_21, g_61_22, g_61_23, p_61_23, r_62, w_62, r_63, w_63, r_64, w_64, r_65, w_65, r_66, w_66, r_67, w_67, r_68, w_68, r_69, w_69, r_70, w_70, r_71, w_71, r_72, w_72, r_73, w_73, r_74, w_74, r_75, w_75, r_76, w_76, r_77, w_77, Option.bind_some, m_isP hn h30 hi, if_neg n0, in_y c1 c2, in_y c3 c4, e5, es, no0_e, ew, e01, e7, bind2]
              rcases no0_01 (s (227 + 2 * i)) with e | e <;> rw [e] <;> rfl
  · refine W_thr (k := 1) (by decide) ?_ hC b ⟨0, _, ?_, fl hD 1⟩
    · simp only [f_L_place, f_X3_place, o_0, Option.bind_some, rp_n hC.1 hp, bindT, bindTW, if_true]
    · simp only [f_X4_place, o_61, Option.bind_some, m_noP hn h0 hp, if_true, m_fails, bind2]
theorem k_coordinate (hi : INV m) (p w : Int32) : okW (f_L_coordinate 0 p w 77) (f_X4_coordinate 61 p w) m := by
  obtain ⟨n, s, M, q, P, PM, tl, tx, hC, hD, b⟩ := INV_out hi
  have hn := b.1.1
  have h8 := hn.2
  have h0 : m.I 62 0 = nI n := by rw [hD.2.1]; exact b.1.2.1
  have n0 : ¬ (1 : Int32) = 0 := by decide
  rcases pt_or hn p with ⟨i, hi, rfl⟩ | hp
  · have ex : m.I 15 i = s (227 + 2 * i) := (hC.2.2.1.2.2.2.2 i (by omega)).1
    have ey : m.I 16 i = s (227 + 2 * i + 1) := (hC.2.2.1.2.2.2.2 i (by omega)).2
    by_cases c1 : w < 0
    · refine W_thr (k := 2) (by decide) ?_ hC b ⟨0, _, ?_, fl hD 2⟩
      · simp only [f_L_coordinate, f_X3_coordinate, o_0, Option.bind_some, rp_y hn hC.1 hi, bindT, if_pos c1, if_true, if_neg (show ¬ (0 : Nat) = 1 by decide)]
      · simp only [f_X4_coordinate, o_61, Option.bind_some, m_isP hn h0 hi, if_neg n0, in_n (Or.inl c1), if_true, m_fails, bind2]
    · by_cases c2 : 1 < w
      · refine W_thr (k := 2) (by decide) ?_ hC b ⟨0, _, ?_, fl hD 2⟩
        · simp only [f_L_coordinate, f_X3_coordinate, o_0, Option.bind_some, rp_y hn hC.1 hi, bindT, if_neg c1, if_neg (nle_lt c2), if_true, if_neg (show ¬ (0 : Nat) = 1 by decide)]
        · simp only [f_X4_coordinate, o_61, Option.bind_some, m_isP hn h0 hi, if_neg n0, in_n (Or.inr c2), if_true, m_fails, bind2]
      · by_cases c3 : w = 0
        · subst c3
          refine W_ok (m1 := m) (w := (s (227 + 2 * i)).toInt64) ?_ hC (upC_rf m) hD b (fun m3 hD3 => ?_)
          · simp (disch := omega) only [f_L_coordinate, f_X3_coordinate, o_0, g_0_0, g_0_1, g_0_2, g_0_3, g_0_4, g_0_5, g_0_6, g_0_7, g_0_8, g_0_9, g_0_10, g_0_11, o_1, g_1_0, g_1_1, g_1_2, g_1_3, g_1_4, g_1_5, g_1_6, g_1_7, g_1_8, g_1_9, r_2, r_3, r_4, r_5, r_6, r_7, r_8, o_9, g_9_0, g_9_1, g_9_2, g_9_3, g_9_4, g_9_5, g_9_6, g_9_7, g_9_8, g_9_9, r_10, r_11, r_12, r_13, r_14, r_15, r_16, o_17, g_17_0, g_17_1, g_17_2, g_17_3, g_17_4, r_18, r_19, r_20, r_22, r_23, r_24, r_25, r_26, r_27, r_28, o_29, g_29_0, g_29_1, g_29_2, g_29_3, g_29_4, g_29_5, g_29_6, g_29_7, g_29_8, g_29_9, r_30, r_31, r_32, r_33, r_34, r_35, r_36, o_37, g_37_0, g_37_1, g_37_2, g_37_3, g_37_4, g_37_5, g_37_6, g_37_7, g_37_8, g_37_9, r_38, r_39, r_40, r_41, r_42, r_43, r_44, o_45, g_45_0, g_45_1, g_45_2, g_45_3, g_45_4, g_45_5, g_45_6, g_45_7, g_45_8, g_45_9, r_46, r_47, r_48, r_49, r_50, r_51, r_52, o_53, g_53_0, g_53_1, g_53_2, g_53_3, g_53_4, g_53_5, g_53_6, g_53_7, g_53_8, g_53_9, r_54, r_55, r_56, r_57, r_58, r_59, r_60, o_61, g_61_0, g_61_1, g_61_2, g_61_3, g_61_4, g_61_5, g_61_6, g_61_7, g_61_8, g_61_9, g_61_10, g_61_11, g_61_12, g_61_13, g_61_14, g_61_15, g_61_16, g_61_17, g_61_18, g_61_19, g_61_20, g_61_21, g_61_22, g_61_23, r_62, r_63, r_64, r_65, r_66, r_67, r_68, r_69, r_70, r_71, r_72, r_73, r_74, r_75, r_76, r_77, Option.bind_some, rp_y hn hC.1 hi, bindT, if_neg c1, if_pos (le_nlt c2), if_true, ex, w77]
          · have h30 : m3.I 62 0 = nI n := by rw [hD3.2.1]; exact b.1.2.1
            have es : m3.I 62 (227 + 2 * i) = s (227 + 2 * i) := by rw [hD3.2.1]
            refine ⟨_, _, ?_, rfl, fl hD3 0⟩
            simp (disch := omega) only [f_X4_coordinate, show (227 : Int32) = nI 227 from rfl, show (2 : Int32) = nI 2 from rfl, pk_mul, nI_add, add_0, o_0, g_0_0, g_0_1, g_0_2, g_0_3, g_0_4, g_0_5, g_0_6, g_0_7, g_0_8, g_0_9, g_0_10, g_0_11, o_1, g_1_0, g_1_1, g_1_2, g_1_3, g_1_4, g_1_5, g_1_6, g_1_7, g_1_8, g_1_9, r_2, r_3, r_4, r_5, r_6, r_7, r_8, o_9, g_9_0, g_9_1, g_9_2, g_9_3, g_9_4, g_9_5, g_9_6, g_9_7, g_9_8, g_9_9, r_10, r_11, r_12, r_13, r_14, r_15, r_16, o_17, g_17_0, g_17_1, g_17_2, g_17_3, g_17_4, r_18, r_19, r_20, r_22, r_23, r_24, r_25, r_26, r_27, r_28, o_29, g_29_0, g_29_1, g_29_2, g_29_3, g_29_4, g_29_5, g_29_6, g_29_7, g_29_8, g_29_9, r_30, r_31, r_32, r_33, r_34, r_35, r_36, o_37, g_37_0, g_37_1, g_37_2, g_37_3, g_37_4, g_37_5, g_37_6, g_37_7, g_37_8, g_37_9, r_38, r_39, r_40, r_41, r_42, r_43, r_44, o_45, g_45_0, g_45_1, g_45_2, g_45_3, g_45_4, g_45_5, g_45_6, g_45_7, g_45_8, g_45_9, r_46, r_47, r_48, r_49, r_50, r_51, r_52, o_53, g_53_0, g_53_1, g_53_2, g_53_3, g_53_4, g_53_5, g_53_6, g_53_7, g_53_8, g_53_9, r_54, r_55, r_56, r_57, r_58, r_59, r_60, o_61, g_61_0, g_61_1, g_61_2, g_61_3, g_61_4, g_61_5, g_61_6, g_61_7, g_61_8, g_61_9, g_61_10, g_61_11, g_61_12, g_61_13, g_61_14, g_61_15, g_61_16, g_61_17, g_61_18, g_61_19, g_61_20, g_61_21, g_61_22, g_61_23, r_62, r_63, r_64, r_65, r_66, r_67, r_68, r_69, r_70, r_71, r_72, r_73, r_74, r_75, r_76, r_77, Option.bind_some, m_isP hn h30 hi, if_neg n0, in_y c1 c2, es, m_tells, bind2]
        · have c4 : w = 1 := by
            rcases ok3_or w with h | h | h
            · rcases h with rfl | rfl | rfl
              · exact absurd (by decide) c1
              · exact absurd rfl c3
              · rfl
            · exfalso
              rw [Int32.lt_iff_toInt_lt] at h c1
              have k1 : (-1 : Int32).toInt = -1 := by decide
              have k2 : (0 : Int32).toInt = 0 := by decide
              omega
            · exact absurd h c2
          subst c4
          refine W_ok (m1 := m) (w := (s (227 + 2 * i + 1)).toInt64) ?_ hC (upC_rf m) hD b (fun m3 hD3 => ?_)
          · simp (disch := omega) only [f_L_coordinate, f_X3_coordinate, o_0, g_0_0, g_0_1, g_0_2, g_0_3, g_0_4, g_0_5, g_0_6, g_0_7, g_0_8, g_0_9, g_0_10, g_0_11, o_1, g_1_0, g_1_1, g_1_2, g_1_3, g_1_4, g_1_5, g_1_6, g_1_7, g_1_8, g_1_9, r_2, r_3, r_4, r_5, r_6, r_7, r_8, o_9, g_9_0, g_9_1, g_9_2, g_9_3, g_9_4, g_9_5, g_9_6, g_9_7, g_9_8, g_9_9, r_10, r_11, r_12, r_13, r_14, r_15, r_16, o_17, g_17_0, g_17_1, g_17_2, g_17_3, g_17_4, r_18, r_19, r_20, r_22, r_23, r_24, r_25, r_26, r_27, r_28, o_29, g_29_0, g_29_1, g_29_2, g_29_3, g_29_4, g_29_5, g_29_6, g_29_7, g_29_8, g_29_9, r_30, r_31, r_32, r_33, r_34, r_35, r_36, o_37, g_37_0, g_37_1, g_37_2, g_37_3, g_37_4, g_37_5, g_37_6, g_37_7, g_37_8, g_37_9, r_38, r_39, r_40, r_41, r_42, r_43, r_44, o_45, g_45_0, g_45_1, g_45_2, g_45_3, g_45_4, g_45_5, g_45_6, g_45_7, g_45_8, g_45_9, r_46, r_47, r_48, r_49, r_50, r_51, r_52, o_53, g_53_0, g_53_1, g_53_2, g_53_3, g_53_4, g_53_5, g_53_6, g_53_7, g_53_8, g_53_9, r_54, r_55, r_56, r_57, r_58, r_59, r_60, o_61, g_61_0, g_61_1, g_61_2, g_61_3, g_61_4, g_61_5, g_61_6, g_61_7, g_61_8, g_61_9, g_61_10, g_61_11, g_61_12, g_61_13, g_61_14, g_61_15, g_61_16, g_61_17, g_61_18, g_61_19, g_61_20, g_61_21, g_61_22, g_61_23, r_62, r_63, r_64, r_65, r_66, r_67, r_68, r_69, r_70, r_71, r_72, r_73, r_74, r_75, r_76, r_77, Option.bind_some, rp_y hn hC.1 hi, bindT, if_neg c1, if_pos (le_nlt c2), if_neg c3, ey, w77]
          · have h30 : m3.I 62 0 = nI n := by rw [hD3.2.1]; exact b.1.2.1
            have es : m3.I 62 (227 + 2 * i + 1) = s (227 + 2 * i + 1) := by rw [hD3.2.1]
            refine ⟨_, _, ?_, rfl, fl hD3 0⟩
            simp (disch := omega) only [f_X4_coordinate, show (227 : Int32) = nI 227 from rfl, show (2 : Int32) = nI 2 from rfl, pk_mul, nI_add, add_1, o_0, g_0_0, g_0_1, g_0_2, g_0_3, g_0_4, g_0_5, g_0_6, g_0_7, g_0_8, g_0_9, g_0_10, g_0_11, o_1, g_1_0, g_1_1, g_1_2, g_1_3, g_1_4, g_1_5, g_1_6, g_1_7, g_1_8, g_1_9, r_2, r_3, r_4, r_5, r_6, r_7, r_8, o_9, g_9_0, g_9_1, g_9_2, g_9_3, g_9_4, g_9_5, g_9_6, g_9_7, g_9_8, g_9_9, r_10, r_11, r_12, r_13, r_14, r_15, r_16, o_17, g_17_0, g_17_1, g_17_2, g_17_3, g_17_4, r_18, r_19, r_20, r_22, r_23, r_24, r_25, r_26, r_27, r_28, o_29, g_29_0, g_29_1, g_29_2, g_29_3, g_29_4, g_29_5, g_29_6, g_29_7, g_29_8, g_29_9, r_30, r_31, r_32, r_33, r_34, r_35, r_36, o_37, g_37_0, g_37_1, g_37_2, g_37_3, g_37_4, g_37_5, g_37_6, g_37_7, g_37_8, g_37_9, r_38, r_39, r_40, r_41, r_42, r_43, r_44, o_45, g_45_0, g_45_1, g_45_2, g_45_3, g_45_4, g_45_5, g_45_6, g_45_7, g_45_8, g_45_9, r_46, r_47, r_48, r_49, r_50, r_51, r_52, o_53, g_53_0, g_53_1, g_53_2, g_53_3, g_53_4, g_53_5, g_53_6, g_53_7, g_53_8, g_53_9, r_54, r_55, r_56, r_57, r_58, r_59, r_60, o_61, g_61_0, g_61_1, g_61_2, g_61_3, g_61_4, g_61_5, g_61_6, g_61_7, g_61_8, g_61_9, g_61_10, g_61_11, g_61_12, g_61_13, g_61_14, g_61_15, g_61_16, g_61_17, g_61_18, g_61_19, g_61_20, g_61_21, g_61_22, g_61_23, r_62, r_63, r_64, r_65, r_66, r_67, r_68, r_69, r_70, r_71, r_72, r_73, r_74, r_75, r_76, r_77, Option.bind_some, m_isP hn h30 hi, if_neg n0, in_y c1 c2, es, m_tells, bind2]
  · refine W_thr (k := 1) (by decide) ?_ hC b ⟨0, _, ?_, fl hD 1⟩
    · simp only [f_L_coordinate, f_X3_coordinate, o_0, Option.bind_some, rp_n hC.1 hp, bindT, if_true]
    · simp only [f_X4_coordinate, o_61, Option.bind_some, m_noP hn h0 hp, if_true, m_fails, bind2]
end Place
