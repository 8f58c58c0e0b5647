/-! the class derives from a relation -/
theorem c_why {n : Nat} (hn : n38 n) {m : Mem} (hL : LC n m) {s : Nat → Int32} {M : Nat → Int64} (hs : RS 9 m s M) {r : Nat} (hr : r < nR n) : f_X3_reasonsOf 0 (nI r) (HH m) = some (orF (fun w => M (fac n r w)) 6) := by
  have h8 := nT_le hn
  have key : ∃ b, l_X3_reasonsOf_5 0 (nI r) (HH m) FU 0 (nI 0) = some b ∧ b = orF (fun w => M (fac n r w)) 6 := by
    refine loopR (fun fuel (a : Int64 × Int32) => l_X3_reasonsOf_5 0 (nI r) (HH m) fuel a.1 a.2) (fun k a => a = (orF (fun w => M (fac n r w)) k, nI k)) _ 6 ?_ ?_ 6 0 (0, nI 0) FU (by omega) (FUx (by omega)) rfl
    · rintro k a fuel hk rfl
      have hl := fac_lt hn hr hk
      refine Or.inl ⟨(orF (fun w => M (fac n r w)) (k + 1), nI (k + 1)), ?_, rfl⟩
      simp (disch := omega) only [l_X3_reasonsOf_5, le6, if_neg (show ¬ 6 ≤ k by omega), o_0, g_0_0, g_0_1, g_0_2, g_0_3, g_0_4, g_0_5, g_0_6, g_0_7, g_0_8, g_0_9, g_0_10, g_0_11, o_1, g_1_0, g_1_1, g_1_2, g_1_3, g_1_4, g_1_5, g_1_6, g_1_7, g_1_8, g_1_9, r_2, r_3, r_4, r_5, r_6, r_7, r_8, o_9, g_9_0, g_9_1, g_9_2, g_9_3, g_9_4, g_9_5, g_9_6, g_9_7, g_9_8, g_9_9, r_10, r_11, r_12, r_13, r_14, r_15, r_16, o_17, g_17_0, g_17_1, g_17_2, g_17_3, g_17_4, r_18, r_19, r_20, r_22, r_23, r_24, r_25, r_26, r_27, r_28, o_29, g_29_0, g_29_1, g_29_2, g_29_3, g_29_4, g_29_5, g_29_6, g_29_7, g_29_8, g_29_9, r_30, r_31, r_32, r_33, r_34, r_35, r_36, o_37, g_37_0, g_37_1, g_37_2, g_37_3, g_37_4, g_37_5, g_37_6, g_37_7, g_37_8, g_37_9, r_38, r_39, r_40, r_41, r_42, r_43, r_44, o_45, g_45_0, g_45_1, g_45_2, g_45_3, g_45_4, g_45_5, g_45_6, g_45_7, g_45_8, g_45_9, r_46, r_47, r_48, r_49, r_50, r_51, r_52, o_53, g_53_0, g_53_1, g_53_2, g_53_3, g_53_4, g_53_5, g_53_6, g_53_7, g_53_8, g_53_9, r_54, r_55, r_56, r_57, r_58, r_59, r_60, o_61, g_61_0, g_61_1, g_61_2, g_61_3, g_61_4, g_61_5, g_61_6, g_61_7, g_61_8, g_61_9, g_61_10, g_61_11, g_61_12, g_61_13, g_61_14, g_61_15, g_61_16, g_61_17, g_61_18, g_61_19, g_61_20, g_61_21, g_61_22, g_61_23, r_62, r_63, r_64, r_65, r_66, r_67, r_68, r_69, r_70, r_71, r_72, r_73, r_74, r_75, r_76, r_77, Option.bind_some, cl_fac hn hL hr hk, add1, orF_s]
      rw [show m.J 14 (fac n r k) = M (fac n r k) from (hs.2.2.2.1 _ (by omega)).2.2.2.2]
    · rintro a fuel rfl
      refine ⟨_, ?_, rfl⟩
      simp (disch := omega) only [l_X3_reasonsOf_5, le6, if_pos (Nat.le_refl 6)]
  obtain ⟨b, e, rfl⟩ := key
  simp only [f_X3_reasonsOf, o_0, Option.bind_some]
  rw [show l_X3_reasonsOf_5 0 (nI r) (HH m) FU 0 0 = _ from e, Option.bind_some]
/-- the verdict with a sign for the unknown triple -/
theorem vd_w {n : Nat} (hn : n38 n) {r : Nat} (hr : r < nR n) {s s1 : Nat → Int32} (hok : okS (nT n) s) {w : Nat} (hw : w < 6) (hz : zs n r s w = -100) (hu : unk n r s 6 = 1) (h1 : ∀ j, j ≠ 3 + 4 * fac n r w → s1 j = s j) {v : Int32} (hv : ok3 v) :
    vd n r (upd s1 (3 + 4 * fac n r w) v) = if acc n r (zw n r s v) 1 3 = acc n r (zw n r s v) (-1) 3 then 1 else -1 := by
  have e : ∀ u, u < 6 → zs n r (upd s1 (3 + 4 * fac n r w) v) u = zw n r s v u := by
    intro u hu6
    unfold zw
    show upd s1 (3 + 4 * fac n r w) v (3 + 4 * fac n r u) = _
    rw [upd_g]
    by_cases c : fac n r u = fac n r w
    · rw [if_pos (by omega), if_pos]
      show s (3 + 4 * fac n r u) = -100
      rw [c]
      exact hz
    · rw [if_neg (by omega), h1 _ (by omega), if_neg]
      · rfl
      · intro hz2
        exact c (by rw [cntN_1 _ 6 hu u w hu6 hw hz2 hz])
  have ez := zw_ok hn hr hok hv
  have u0 : unk n r (upd s1 (3 + 4 * fac n r w) v) 6 = 0 := (cntN_0 _ 6).mpr (fun k hk => by
    show ¬ zs n r (upd s1 (3 + 4 * fac n r w) v) k = -100
    rw [e k hk]
    exact ok3_ne (ez k hk))
  have cg := ful_cg (n := n) (r := r) e
  by_cases d : acc n r (zw n r s v) 1 3 = acc n r (zw n r s v) (-1) 3
  · rw [if_pos d]
    exact vd_t u0 (cg.mpr d)
  · rw [if_neg d]
    exact vd_f u0 (fun q => d (cg.mp q))
theorem c_loop {n : Nat} (hn : n38 n) {m : Mem} (hL : LC n m) {s : Nat → Int32} {M : Nat → Int64} (hs : RS 9 m s M) (h1 : s 1 = 0 ∨ s 1 = 1) {r : Nat} (hr : r < nR n) (hok : okS (nT n) s) {w : Nat} (hw : w < 6) (hz : zs n r s w = -100) (hu : unk n r s 6 = 1) :
    ∃ m1 s1, l_X3_deriveFrom_42 0 (nI r) (nI (fac n r w)) (if s 1 = 0 then 1 else 2) FU 0 (-100) (-1) (HH m) = some (nI (found n r s (-100)).1, (found n r s (-100)).2, HH m1) ∧ RS 9 m1 s1 M ∧ Fr (cS 9) m m1 ∧ ∀ j, j ≠ 3 + 4 * fac n r w → s1 j = s j := by
  have h8 := nT_le hn
  have hl := fac_lt hn hr hw
  have one : ∀ (p5 : Int32) (fuel : Nat) (a : Nat × Int32) (v : Int32) (m1 : Mem) (s1 : Nat → Int32), RS 9 m1 s1 M → Fr (cS 9) m m1 → (∀ j, j ≠ 3 + 4 * fac n r w → s1 j = s j) → ok3 v →
      l_X3_deriveFrom_42 0 (nI r) (nI (fac n r w)) p5 (fuel + 1) (nI a.1) a.2 v (HH m1) = l_X3_deriveFrom_42 0 (nI r) (nI (fac n r w)) p5 fuel (nI (fd n r s v a).1) (fd n r s v a).2 (v + p5) (HH (m1.sI 10 (fac n r w) v)) := by
    intro p5 fuel a v m1 s1 hr1 hf1 hs1 hv
    have hL1 := LC_9 hL hf1
    obtain ⟨r2, f2⟩ := RS_sg hr1 (t := fac n r w) (by omega) v
    have hL2 := LC_9 hL1 f2
    have c2 : ¬ (1 : Int32) < v := by rcases hv with rfl | rfl | rfl <;> decide
    have ev := cl_vdv hn hL2 r2 hr
    rw [vd_w hn hr hok hw hz hu hs1 hv] at ev
    rw [l_X3_deriveFrom_42, if_neg c2, g_0_1, Option.bind_some, g_9_3, Option.bind_some, w_10 m1 (i := fac n r w) (by omega) v, Option.bind_some, g_0_0, Option.bind_some, g_0_1, Option.bind_some, g_9_3, Option.bind_some, ev, Option.bind_some]
    unfold fd
    by_cases d : acc n r (zw n r s v) 1 3 = acc n r (zw n r s v) (-1) 3
    · rw [if_pos d, if_pos d, if_neg (by decide), add_1]
      rfl
    · rw [if_neg d, if_neg d, if_pos (by decide)]
      rfl
  have nxt : ∀ (v : Int32) (m1 : Mem) (s1 : Nat → Int32), RS 9 m1 s1 M → Fr (cS 9) m m1 → (∀ j, j ≠ 3 + 4 * fac n r w → s1 j = s j) → RS 9 (m1.sI 10 (fac n r w) v) (upd s1 (3 + 4 * fac n r w) v) M ∧ Fr (cS 9) m (m1.sI 10 (fac n r w) v) ∧ (∀ j, j ≠ 3 + 4 * fac n r w → upd s1 (3 + 4 * fac n r w) v j = s j) := by
    intro v m1 s1 hr1 hf1 hs1
    obtain ⟨r2, f2⟩ := RS_sg hr1 (t := fac n r w) (by omega) v
    refine ⟨r2, Fr_tr hf1 f2, fun j hj => ?_⟩
    rw [upd_g, if_neg hj]
    exact hs1 j hj
  obtain ⟨a1, a2, a3⟩ := nxt (-1) m s hs (Fr_rf _ m) (fun _ _ => rfl)
  unfold found
  by_cases c : s 1 = 0
  · obtain ⟨b1, b2, b3⟩ := nxt 0 _ _ a1 a2 a3
    obtain ⟨d1, d2, d3⟩ := nxt 1 _ _ b1 b2 b3
    refine ⟨_, _, ?_, d1, d2, d3⟩
    rw [if_pos c, if_pos c]
    rw [show FU = (((3999996 + 1) + 1) + 1) + 1 from rfl, show l_X3_deriveFrom_42 0 (nI r) (nI (fac n r w)) 1 ((((3999996 + 1) + 1) + 1) + 1) 0 (-100) (-1) (HH m) = _ from one 1 _ (0, -100) (-1) m s hs (Fr_rf _ m) (fun _ _ => rfl) (Or.inl rfl), show (-1 : Int32) + 1 = 0 by decide, one 1 _ _ 0 _ _ a1 a2 a3 (Or.inr (Or.inl rfl)), show (0 : Int32) + 1 = 1 by decide, one 1 _ _ 1 _ _ b1 b2 b3 (Or.inr (Or.inr rfl)), show (1 : Int32) + 1 = 2 by decide]
    rw [l_X3_deriveFrom_42, if_pos (show (1 : Int32) < 2 by decide)]
  · obtain ⟨d1, d2, d3⟩ := nxt 1 _ _ a1 a2 a3
    refine ⟨_, _, ?_, d1, d2, d3⟩
    rw [if_neg c, if_neg c]
    rw [show FU = ((3999997 + 1) + 1) + 1 from rfl, show l_X3_deriveFrom_42 0 (nI r) (nI (fac n r w)) 2 (((3999997 + 1) + 1) + 1) 0 (-100) (-1) (HH m) = _ from one 2 _ (0, -100) (-1) m s hs (Fr_rf _ m) (fun _ _ => rfl) (Or.inl rfl), show (-1 : Int32) + 2 = 1 by decide, one 2 _ _ 1 _ _ a1 a2 a3 (Or.inr (Or.inr rfl)), show (1 : Int32) + 2 = 3 by decide]
    rw [l_X3_deriveFrom_42, if_pos (show (1 : Int32) < 3 by decide)]
/-- the reasons after a relation is tried -/
def tM (n r : Nat) (s : Nat → Int32) (M : Nat → Int64) : Nat → Int64 := if tld n r s = 1 then vp_updL M (fac n r (wu n r s)) (orF (fun w => M (fac n r w)) 6) else M
theorem c_from {n : Nat} (hn : n38 n) {m : Mem} (hL : LC n m) {s : Nat → Int32} {M : Nat → Int64} (hs : RS 9 m s M) (h1 : s 1 = 0 ∨ s 1 = 1) {r : Nat} (hr : r < nR n) (hok : okS (nT n) s) (hu : unk n r s 6 = 1) :
    ∃ m1, f_X3_deriveFrom 0 (nI r) (HH m) = some (if tld n r s = 1 then 1 else 0, HH m1) ∧ RS 9 m1 (if tld n r s = -1 then upd s 2 (nI r) else trow n r s) (tM n r s M) ∧ Fr (cS 9) m m1 := by
  have h8 := nT_le hn
  obtain ⟨w, hw, hz, ew⟩ := cl_fst hn hL hs hr hu
  obtain ⟨hw2, hz2⟩ := wu_ok hu
  have eww : wu n r s = w := cntN_1 _ 6 hu _ _ hw2 hw hz2 hz
  have hl := fac_lt hn hr hw
  obtain ⟨m1, s1, e1, r1, f1, k1⟩ := c_loop hn hL hs h1 hr hok hw hz hu
  obtain ⟨r2, f2⟩ := RS_sg r1 (t := fac n r w) (by omega) (-100)
  have r3 : RS 9 (m1.sI 10 (fac n r w) (-100)) s M := RS_cg r2 (fun k hk => by
    rw [upd_g]
    by_cases c : k = 3 + 4 * fac n r w
    · rw [if_pos c, c]
      exact hz
    · rw [if_neg c, k1 k c]) (fun _ _ => rfl)
  have f3 := Fr_tr f1 f2
  have fl := found_le n r s (-100)
  have fx := found_x n r s (-100) 0
  have q1 : nI (found n r s (-100)).1 = 1 ↔ (found n r s (-100)).1 = 1 := nI_eq (b := 1) (by omega) (by decide)
  have q0 : nI (found n r s (-100)).1 = 0 ↔ (found n r s (-100)).1 = 0 := nI_eq (b := 0) (by omega) (by decide)
  have hu0 : ¬ unk n r s 6 = 0 := by omega
  have est : (if s 1 = 0 then some (1 : Int32) else some 2) = some (if s 1 = 0 then 1 else 2) := by split <;> rfl
  simp (disch := omega) only [f_X3_deriveFrom, o_0, g_0_0, g_0_1, g_0_2, g_0_3, g_0_4, p_0_4, g_0_5, g_0_6, g_0_7, g_0_8, g_0_9, g_0_10, g_0_11, o_1, g_1_0, p_1_0, g_1_1, p_1_1, g_1_2, p_1_2, g_1_3, g_1_4, g_1_5, g_1_6, g_1_7, g_1_8, g_1_9, r_2, w_2, r_3, w_3, r_4, w_4, r_5, w_5, r_6, w_6, r_7, w_7, r_8, w_8, o_9, g_9_0, p_9_0, g_9_1, p_9_1, g_9_2, p_9_2, g_9_3, g_9_4, g_9_5, g_9_6, g_9_7, g_9_8, g_9_9, r_10, w_10, r_11, w_11, r_12, w_12, r_13, w_13, r_14, w_14, r_15, w_15, r_16, w_16, o_17, g_17_0, g_17_1, p_17_1, g_17_2, g_17_3, g_17_4, p_17_4, r_18, w_18, r_19, w_19, r_20, w_20, r_22, w_22, r_23, w_23, r_24, w_24, r_25, w_25, r_26, w_26, r_27, w_27, r_28, w_28, o_29, g_29_0, p_29_0, g_29_1, p_29_1, g_29_2, p_29_2, g_29_3, g_29_4, g_29_5, g_29_6, g_29_7, g_29_8, g_29_9, r_30, w_30, r_31, w_31, r_32, w_32, r_33, w_33, r_34, w_34, r_35, w_35, r_36, w_36, o_37, g_37_0, p_37_0, g_37_1, p_37_1, g_37_2, p_37_2, g_37_3, g_37_4, g_37_5, g_37_6, g_37_7, g_37_8, g_37_9, r_38, w_38, r_39, w_39, r_40, w_40, r_41, w_41, r_42, w_42, r_43, w_43, r_44, w_44, o_45, g_45_0, p_45_0, g_45_1, p_45_1, g_45_2, p_45_2, g_45_3, g_45_4, g_45_5, g_45_6, g_45_7, g_45_8, g_45_9, r_46, w_46, r_47, w_47, r_48, w_48, r_49, w_49, r_50, w_50, r_51, w_51, r_52, w_52, o_53, g_53_0, p_53_0, g_53_1, p_53_1, g_53_2, p_53_2, g_53_3, g_53_4, g_53_5, g_53_6, g_53_7, g_53_8, g_53_9, r_54, w_54, r_55, w_55, r_56, w_56, r_57, w_57, r_58, w_58, r_59, w_59, r_60, w_60, o_61, g_61_0, g_61_1, g_61_2, g_61_3, p_61_3, g_61_4, g_61_5, p_61_5, g_61_6, p_61_6, g_61_7, g_61_8, g_61_9, p_61_9, g_61_10, g_61_11, p_61_11, g_61_12, p_61_12, g_61_13, g_61_14, g_61_15, g_61_16, g_61_17, g_61_18, g_61_19, g_61_20, p_61_20, g_61_21, p_61_21, g_61_22, g_61_23, p_61_23, r_62, w_62, r_63, w_63, r_64, w_64, r_65, w_65, r_66, w_66, r_67, w_67, r_68, w_68, r_69, w_69, r_70, w_70, r_71, w_71, r_72, w_72, r_73, w_73, r_74, w_74, r_75, w_75, r_76, w_76, r_77, w_77, Option.bind_some, ew, hs.2.1, est, e1, bind3]
  by_cases d0 : (found n r s (-100)).1 = 0
  · have et : tld n r s = -1 := by unfold tld; rw [if_neg hu0, if_pos hu, if_neg (by omega), if_pos (by omega)]
    obtain ⟨r4, f4⟩ := c9_clash r3 (nI r)
    unfold tM
    rw [et, if_pos (q0.mpr d0), if_neg (show ¬ (-1 : Int32) = 1 by decide), if_pos rfl, if_neg (show ¬ (-1 : Int32) = 1 by decide)]
    simp only [Option.bind_some, if_neg (show ¬ nI (found n r s (-100)).1 = 1 from fun q => absurd (q1.mp q) (by omega))]
    exact ⟨_, rfl, r4, Fr_tr f3 f4⟩
  · rw [if_neg (fun q => d0 (q0.mp q)), Option.bind_some]
    by_cases d1 : (found n r s (-100)).1 = 1
    · have et : tld n r s = 1 := by unfold tld; rw [if_neg hu0, if_pos hu, if_pos (by omega)]
      have hL3 := LC_9 hL f3
      obtain ⟨m4, e4, r4, f4⟩ := c9_derived r3 (t := fac n r w) (by omega) (found n r s 0).2 (nI r) (nI (many s 2 (nT n) + 1)) (orF (fun w => M (fac n r w)) 6)
      refine ⟨m4, ?_, ?_, Fr_tr f3 f4⟩
      · rw [if_pos (q1.mpr d1), if_pos et]
        simp (disch := omega) only [o_0, g_0_0, g_0_1, g_0_2, g_0_3, g_0_4, g_0_5, g_0_6, g_0_7, g_0_8, g_0_9, g_0_10, g_0_11, o_1, g_1_0, g_1_1, g_1_2, g_1_3, g_1_4, g_1_5, g_1_6, g_1_7, g_1_8, g_1_9, r_2, r_3, r_4, r_5, r_6, r_7, r_8, o_9, g_9_0, g_9_1, g_9_2, g_9_3, g_9_4, g_9_5, g_9_6, g_9_7, g_9_8, g_9_9, r_10, r_11, r_12, r_13, r_14, r_15, r_16, o_17, g_17_0, g_17_1, g_17_2, g_17_3, g_17_4, r_18, r_19, r_20, r_22, r_23, r_24, r_25, r_26, r_27, r_28, o_29, g_29_0, g_29_1, g_29_2, g_29_3, g_29_4, g_29_5, g_29_6, g_29_7, g_29_8, g_29_9, r_30, r_31, r_32, r_33, r_34, r_35, r_36, o_37, g_37_0, g_37_1, g_37_2, g_37_3, g_37_4, g_37_5, g_37_6, g_37_7, g_37_8, g_37_9, r_38, r_39, r_40, r_41, r_42, r_43, r_44, o_45, g_45_0, g_45_1, g_45_2, g_45_3, g_45_4, g_45_5, g_45_6, g_45_7, g_45_8, g_45_9, r_46, r_47, r_48, r_49, r_50, r_51, r_52, o_53, g_53_0, g_53_1, g_53_2, g_53_3, g_53_4, g_53_5, g_53_6, g_53_7, g_53_8, g_53_9, r_54, r_55, r_56, r_57, r_58, r_59, r_60, o_61, g_61_0, g_61_1, g_61_2, g_61_3, g_61_4, g_61_5, g_61_6, g_61_7, g_61_8, g_61_9, g_61_10, g_61_11, g_61_12, g_61_13, g_61_14, g_61_15, g_61_16, g_61_17, g_61_18, g_61_19, g_61_20, g_61_21, g_61_22, g_61_23, r_62, r_63, r_64, r_65, r_66, r_67, r_68, r_69, r_70, r_71, r_72, r_73, r_74, r_75, r_76, r_77, Option.bind_some, hL3.2.1, s9_count _ r3 2 h8, c_why hn hL3 r3 hr, add_1, found_y n r s (-100) 0 d0, e4]
      · unfold trow tM
        rw [et, if_neg (show ¬ (1 : Int32) = -1 by decide), if_pos rfl, if_pos rfl, eww]
        exact r4
    · have et : tld n r s = 0 := by unfold tld; rw [if_neg hu0, if_pos hu, if_neg (by omega), if_neg (by omega)]
      rw [if_neg (fun q => d1 (q1.mp q))]
      unfold trow tM
      rw [et, if_neg (show ¬ (0 : Int32) = 1 by decide), if_neg (show ¬ (0 : Int32) = -1 by decide), if_neg (show ¬ (0 : Int32) = 1 by decide), if_neg (show ¬ (0 : Int32) = 1 by decide)]
      exact ⟨_, rfl, r3, f3⟩
/-! a state holds together after a relation is tried -/
theorem orF_same {n r t : Nat} {M M' : Nat → Int64} (h0 : M t = 0) (h : ∀ u, u ≠ t → M' u = M u) : orF (fun w => M (fac n r w)) 6 = orF (fun w => if fac n r w = t then 0 else M' (fac n r w)) 6 :=
  orF_cg 6 (fun w _ => by
    show M (fac n r w) = if fac n r w = t then 0 else M' (fac n r w)
    by_cases c : fac n r w = t
    · rw [if_pos c, c, h0]
    · rw [if_neg c, h _ c])
theorem GG_try {n : Nat} {s : Nat → Int32} {M : Nat → Int64} (g : GG n s M) {r : Nat} (hr : r < nR n) : GG n (trow n r s) (tM n r s M) ∧ (tld n r s = 1 → many (trow n r s) 2 (nT n) = many s 2 (nT n) + 1) ∧ trow n r s 2 = s 2 := by
  unfold trow tM
  by_cases et : tld n r s = 1
  · rw [if_pos et, if_pos et]
    obtain ⟨hn, g0, g1, gt⟩ := g
    have h8 := nT_le hn
    have hu0 : ¬ unk n r s 6 = 0 := fun c => by
      unfold tld at et
      rw [if_pos c] at et
      split at et <;> exact absurd et (by decide)
    have hu : unk n r s 6 = 1 := Classical.byContradiction (fun c => by
      unfold tld at et
      rw [if_neg hu0, if_neg c] at et
      exact absurd et (by decide))
    have hf : (found n r s 0).1 = 1 := Classical.byContradiction (fun c => by
      unfold tld at et
      rw [if_neg hu0, if_pos hu, if_neg c] at et
      split at et <;> exact absurd et (by decide))
    obtain ⟨hw, hz⟩ := wu_ok hu
    have hl := fac_lt hn hr hw
    have hv := found_ok n r s 0 (by omega)
    obtain ⟨t, et2⟩ : ∃ t, t = fac n r (wu n r s) := ⟨_, rfl⟩
    rw [← et2] at hl ⊢
    have hz : s (3 + 4 * t) = -100 := by rw [et2]; exact hz
    have uq : ∀ u, u < 6 → fac n r u ≠ t → zs n r s u ≠ -100 := fun u hu6 hne hz2 => hne (by rw [et2, cntN_1 _ 6 hu u (wu n r s) hu6 hw hz2 (by show s (3 + 4 * fac n r (wu n r s)) = -100; rw [← et2]; exact hz)])
    have gt0 : G0 s M t := by
      rcases gt t (by omega) with g | g | ⟨r2, st, g⟩
      · exact g
      · exact absurd hz (ok3_ne g.2.2.1)
      · exact absurd hz (ok3_ne g.2.2.1)
    have gk : ∀ u, u < nT n → s (3 + 4 * u) ≠ -100 → s (3 + 4 * u + 1) = 1 ∨ (s (3 + 4 * u + 1) = 2 ∧ ∃ q, s (3 + 4 * u + 3) = nI q ∧ q ≤ many s 2 (nT n)) := by
      intro u hu2 hne
      rcases gt u (by omega) with g | g | ⟨r2, st, g⟩
      · exact absurd g.2.1 hne
      · exact Or.inl g.2.1
      · exact Or.inr ⟨g.2.1, st, g.2.2.2.2.2.1, g.2.2.2.2.2.2.2.1⟩
    have d0 : ∀ u, u ≠ t → drv t (found n r s 0).2 (nI r) (nI (many s 2 (nT n) + 1)) s (3 + 4 * u) = s (3 + 4 * u) := fun u hu => by
      rw [drv_g, if_neg (by omega), if_neg (by omega), if_neg (by omega), if_neg (by omega)]
    have d1 : ∀ u, u ≠ t → drv t (found n r s 0).2 (nI r) (nI (many s 2 (nT n) + 1)) s (3 + 4 * u + 1) = s (3 + 4 * u + 1) := fun u hu => by
      rw [drv_g, if_neg (by omega), if_neg (by omega), if_neg (by omega), if_neg (by omega)]
    have d2 : ∀ u, u ≠ t → drv t (found n r s 0).2 (nI r) (nI (many s 2 (nT n) + 1)) s (3 + 4 * u + 2) = s (3 + 4 * u + 2) := fun u hu => by
      rw [drv_g, if_neg (by omega), if_neg (by omega), if_neg (by omega), if_neg (by omega)]
    have d3 : ∀ u, u ≠ t → drv t (found n r s 0).2 (nI r) (nI (many s 2 (nT n) + 1)) s (3 + 4 * u + 3) = s (3 + 4 * u + 3) := fun u hu => by
      rw [drv_g, if_neg (by omega), if_neg (by omega), if_neg (by omega), if_neg (by omega)]
    have t1 : drv t (found n r s 0).2 (nI r) (nI (many s 2 (nT n) + 1)) s (3 + 4 * t + 1) = 2 := by
      rw [drv_g, if_neg (by omega), if_pos rfl]
    have hmany : many (drv t (found n r s 0).2 (nI r) (nI (many s 2 (nT n) + 1)) s) 2 (nT n) = many s 2 (nT n) + 1 := many_one hl (by rw [gt0.1]; decide) t1 d1
    have M1 : ∀ u, u ≠ t → vp_updL M t (orF (fun w => M (fac n r w)) 6) u = M u := fun u hu => by rw [updL_g, if_neg hu]
    refine ⟨⟨hn, ?_, ?_, fun u hu => ?_⟩, fun _ => hmany, ?_⟩
    · rw [drv_g, if_neg (by omega), if_neg (by omega), if_neg (by omega), if_neg (by omega)]
      exact g0
    · rw [drv_g, if_neg (by omega), if_neg (by omega), if_neg (by omega), if_neg (by omega)]
      exact g1
    · by_cases c : u = t
      · subst c
        refine Or.inr (Or.inr ⟨r, many s 2 (nT n) + 1, hl, t1, ?_, hr, ?_, ?_, by omega, by omega, ?_, ?_⟩)
        · rw [drv_g, if_pos rfl]
          exact hv
        · rw [drv_g, if_neg (by omega), if_neg (by omega), if_pos rfl]
        · rw [drv_g, if_neg (by omega), if_neg (by omega), if_neg (by omega), if_pos rfl]
        · rw [updL_g, if_pos rfl]
          exact orF_same gt0.2.2.2 M1
        · intro w hw6
          by_cases c2 : fac n r w = u
          · exact Or.inl c2
          · have hlw := fac_lt hn hr hw6
            rw [d1 _ c2, d3 _ c2]
            rcases gk _ hlw (uq w hw6 c2) with k | ⟨k, q, k2, k3⟩
            · exact Or.inr (Or.inl k)
            · exact Or.inr (Or.inr ⟨k, q, k2, by omega⟩)
      · rcases gt u hu with g | g | ⟨r2, st, g⟩
        · refine Or.inl ⟨?_, ?_, ?_, ?_⟩
          · rw [d1 u c]; exact g.1
          · rw [d0 u c]; exact g.2.1
          · rw [d3 u c]; exact g.2.2.1
          · rw [M1 u c]; exact g.2.2.2
        · refine Or.inr (Or.inl ⟨g.1, ?_, ?_, ?_, ?_⟩)
          · rw [d1 u c]; exact g.2.1
          · rw [d0 u c]; exact g.2.2.1
          · rw [d3 u c]; exact g.2.2.2.1
          · rw [M1 u c]; exact g.2.2.2.2
        · obtain ⟨y1, y2, y3, y4, y5, y6, y7, y8, y9, y10⟩ := g
          have nt : ∀ w, w < 6 → fac n r2 w ≠ t := fun w hw6 e => by
            rcases y10 w hw6 with k | k | ⟨k, _⟩
            · exact c (k.symm.trans e)
            · rw [e, gt0.1] at k
              exact absurd k (by decide)
            · rw [e, gt0.1] at k
              exact absurd k (by decide)
          refine Or.inr (Or.inr ⟨r2, st, y1, ?_, ?_, y4, ?_, ?_, y7, by omega, ?_, ?_⟩)
          · rw [d1 u c]; exact y2
          · rw [d0 u c]; exact y3
          · rw [d2 u c]; exact y5
          · rw [d3 u c]; exact y6
          · rw [M1 u c, y9]
            refine orF_cg 6 (fun w hw6 => ?_)
            show (if fac n r2 w = u then (0 : Int64) else M (fac n r2 w)) = if fac n r2 w = u then 0 else _
            rw [M1 _ (nt w hw6)]
          · intro w hw6
            rw [d1 _ (nt w hw6), d3 _ (nt w hw6)]
            exact y10 w hw6
    · rw [drv_g, if_neg (by omega), if_neg (by omega), if_neg (by omega), if_neg (by omega)]
  · rw [if_neg et, if_neg et]
    exact ⟨g, fun q => absurd q et, rfl⟩
