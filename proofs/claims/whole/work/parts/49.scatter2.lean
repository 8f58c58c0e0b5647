/-! scatter -/
def scS (n : Nat) (s : Nat → Int32) (r : Int32) (x0 : Int64) : Nat → Nat × Int64 × (Nat → Int32)
  | 0 => (57, x0, fun _ => 0)
  | k + 1 => if (scS n s r x0 k).1 ≤ mis n s (fun p => pv r (scS n s r x0 k).2.1 (2 * p)) (fun p => pv r (scS n s r x0 k).2.1 (2 * p + 1)) (nT n) then ((scS n s r x0 k).1, sq (scS n s r x0 k).2.1 (2 * n), (scS n s r x0 k).2.2) else (mis n s (fun p => pv r (scS n s r x0 k).2.1 (2 * p)) (fun p => pv r (scS n s r x0 k).2.1 (2 * p + 1)) (nT n), sq (scS n s r x0 k).2.1 (2 * n), pv r (scS n s r x0 k).2.1)
theorem scS_s (n : Nat) (s : Nat → Int32) (r : Int32) (x0 : Int64) (k : Nat) : scS n s r x0 (k + 1) = if (scS n s r x0 k).1 ≤ mis n s (fun p => pv r (scS n s r x0 k).2.1 (2 * p)) (fun p => pv r (scS n s r x0 k).2.1 (2 * p + 1)) (nT n) then ((scS n s r x0 k).1, sq (scS n s r x0 k).2.1 (2 * n), (scS n s r x0 k).2.2) else (mis n s (fun p => pv r (scS n s r x0 k).2.1 (2 * p)) (fun p => pv r (scS n s r x0 k).2.1 (2 * p + 1)) (nT n), sq (scS n s r x0 k).2.1 (2 * n), pv r (scS n s r x0 k).2.1) := rfl
theorem mis_le (n : Nat) (s X Y : Nat → Int32) (k : Nat) : mis n s X Y k ≤ k := cntN_le _ k
theorem scS_le {n : Nat} (hn : n38 n) (s : Nat → Int32) (r : Int32) (x0 : Int64) : ∀ k, (scS n s r x0 k).1 ≤ 57 := by
  intro k
  have hT := nT_le hn
  induction k with
  | zero => exact Nat.le_refl 57
  | succ k ih =>
    have := mis_le n s (fun p => pv r (scS n s r x0 k).2.1 (2 * p)) (fun p => pv r (scS n s r x0 k).2.1 (2 * p + 1)) (nT n)
    rw [scS_s]
    split
    · exact ih
    · show mis n s _ _ (nT n) ≤ 57
      omega
theorem le57 {k : Nat} (hk : k < 2 ^ 31) : ((57 : Int32) ≤ nI k) = (57 ≤ k) := propext (nI_leI (a := 57) (by decide) hk)
theorem LC_P {n : Nat} {m m1 : Mem} (h : LC n m) (f : Fr cP m m1) : LC n m1 := LC_of h (fun a _ hb => f.1 a (by unfold cP; omega))
theorem c_tries {n : Nat} (hn : n38 n) {m : Mem} (hL : LC n m) {s : Nat → Int32} {M : Nat → Int64} (hs : RS 9 m s M) {r : Int32} (hr : rOk r) (x0 : Int64) {T : Nat} (hT : T ≤ 50) (h1 : 1 ≤ T) :
    ∃ m1, l_X3_scatter_77 0 (nI T) r FU 57 x0 0 (HH m) = some (nI (scS n s r x0 T).1, HH m1) ∧ (∀ p, p < n → m1.I 27 p = (scS n s r x0 T).2.2 (2 * p) ∧ m1.I 28 p = (scS n s r x0 T).2.2 (2 * p + 1)) ∧ Fr cX m m1 := by
  have h8 := hn.2
  have hTT := nT_le hn
  have key : ∃ b, l_X3_scatter_77 0 (nI T) r FU 57 x0 (nI 0) (HH m) = some b ∧ ∃ m1, b = (nI (scS n s r x0 T).1, HH m1) ∧ (1 ≤ T → ∀ p, p < n → m1.I 27 p = (scS n s r x0 T).2.2 (2 * p) ∧ m1.I 28 p = (scS n s r x0 T).2.2 (2 * p + 1)) ∧ Fr cX m m1 := by
    refine loopR (fun fuel (a : Int32 × Int64 × Int32 × Hp) => l_X3_scatter_77 0 (nI T) r fuel a.1 a.2.1 a.2.2.1 a.2.2.2) (fun k a => ∃ m1, a = (nI (scS n s r x0 k).1, (scS n s r x0 k).2.1, nI k, HH m1) ∧ (1 ≤ k → ∀ p, p < n → m1.I 27 p = (scS n s r x0 k).2.2 (2 * p) ∧ m1.I 28 p = (scS n s r x0 k).2.2 (2 * p + 1)) ∧ Fr cX m m1) _ T ?_ ?_ T 0 (57, x0, nI 0, HH m) FU (by omega) (FUx (by omega)) ⟨m, rfl, fun h => absurd h (by omega), Fr_rf _ m⟩
    · rintro k a fuel hk ⟨m1, rfl, hv, hf⟩
      have hL1 := LC_x hL hf
      obtain ⟨m2, e2, v2, f2⟩ := c_place hn hL1 hr (scS n s r x0 k).2.1
      have f2x : Fr cX m1 m2 := Fr_w (d := cX) f2 (fun a h => by unfold cP at h; unfold cX; omega)
      have f02 := Fr_tr hf f2x
      have hL2 := LC_P hL1 f2
      have hs2 : RS 9 m2 s M := RS_of hs (fun a ha => f02.1 a (by unfold cS at ha; unfold cX; omega))
      have em := cl_mis hn hL2 hs2 (a := 25) (c := 26) (X := fun p => pv r (scS n s r x0 k).2.1 (2 * p)) (Y := fun p => pv r (scS n s r x0 k).2.1 (2 * p + 1)) (fun p hp => by rw [r_25 m2 (by omega), (v2 p hp).1]) (fun p hp => by rw [r_26 m2 (by omega), (v2 p hp).2])
      have hle := mis_le n s (fun p => pv r (scS n s r x0 k).2.1 (2 * p)) (fun p => pv r (scS n s r x0 k).2.1 (2 * p + 1)) (nT n)
      have hle2 := scS_le hn s r x0 k
      have q27 : m2.I 27 = m1.I 27 := (f2.1 27 (by unfold cP; omega)).1
      have q28 : m2.I 28 = m1.I 28 := (f2.1 28 (by unfold cP; omega)).1
      by_cases c : (scS n s r x0 k).1 ≤ mis n s (fun p => pv r (scS n s r x0 k).2.1 (2 * p)) (fun p => pv r (scS n s r x0 k).2.1 (2 * p + 1)) (nT n)
      · refine Or.inl ⟨(nI (scS n s r x0 (k + 1)).1, (scS n s r x0 (k + 1)).2.1, nI (k + 1), HH m2), ?_, m2, rfl, ?_, f02⟩
        · simp (disch := omega) only [l_X3_scatter_77, o_0, g_0_0, g_0_1, g_0_2, g_0_3, g_0_4, g_0_5, g_0_6, g_0_7, g_0_8, g_0_9, g_0_10, g_0_11, o_1, g_1_0, g_1_1, g_1_2, g_1_3, g_1_4, g_1_5, g_1_6, g_1_7, g_1_8, g_1_9, r_2, r_3, r_4, r_5, r_6, r_7, r_8, o_9, g_9_0, g_9_1, g_9_2, g_9_3, g_9_4, g_9_5, g_9_6, g_9_7, g_9_8, g_9_9, r_10, r_11, r_12, r_13, r_14, r_15, r_16, o_17, g_17_0, g_17_1, g_17_2, g_17_3, g_17_4, r_18, r_19, r_20, r_22, r_23, r_24, r_25, r_26, r_27, r_28, o_29, g_29_0, g_29_1, g_29_2, g_29_3, g_29_4, g_29_5, g_29_6, g_29_7, g_29_8, g_29_9, r_30, r_31, r_32, r_33, r_34, r_35, r_36, o_37, g_37_0, g_37_1, g_37_2, g_37_3, g_37_4, g_37_5, g_37_6, g_37_7, g_37_8, g_37_9, r_38, r_39, r_40, r_41, r_42, r_43, r_44, o_45, g_45_0, g_45_1, g_45_2, g_45_3, g_45_4, g_45_5, g_45_6, g_45_7, g_45_8, g_45_9, r_46, r_47, r_48, r_49, r_50, r_51, r_52, o_53, g_53_0, g_53_1, g_53_2, g_53_3, g_53_4, g_53_5, g_53_6, g_53_7, g_53_8, g_53_9, r_54, r_55, r_56, r_57, r_58, r_59, r_60, o_61, g_61_0, g_61_1, g_61_2, g_61_3, g_61_4, g_61_5, g_61_6, g_61_7, g_61_8, g_61_9, g_61_10, g_61_11, g_61_12, g_61_13, g_61_14, g_61_15, g_61_16, g_61_17, g_61_18, g_61_19, g_61_20, g_61_21, g_61_22, g_61_23, r_62, r_63, r_64, r_65, r_66, r_67, r_68, r_69, r_70, r_71, r_72, r_73, r_74, r_75, r_76, r_77, Option.bind_some, leN, if_neg (show ¬ T ≤ k by omega), e2, bind2, em, if_pos c, add1]
          rw [scS_s, if_pos c]
        · intro hk1 p hp
          rw [scS_s, if_pos c, q27, q28]
          by_cases k0 : k = 0
          · subst k0
            have : 57 ≤ mis n s (fun p => pv r (scS n s r x0 0).2.1 (2 * p)) (fun p => pv r (scS n s r x0 0).2.1 (2 * p + 1)) (nT n) := c
            omega
          · exact hv (by omega) p hp
      · obtain ⟨m3, e3, v3, f3⟩ := c_best hn hL2
        have f3x : Fr cX m2 m3 := Fr_w (d := cX) f3 (fun a h => by unfold cB at h; unfold cX; omega)
        refine Or.inl ⟨(nI (scS n s r x0 (k + 1)).1, (scS n s r x0 (k + 1)).2.1, nI (k + 1), HH m3), ?_, m3, rfl, ?_, Fr_tr f02 f3x⟩
        · simp (disch := omega) only [l_X3_scatter_77, o_0, g_0_0, g_0_1, g_0_2, g_0_3, g_0_4, g_0_5, g_0_6, g_0_7, g_0_8, g_0_9, g_0_10, g_0_11, o_1, g_1_0, g_1_1, g_1_2, g_1_3, g_1_4, g_1_5, g_1_6, g_1_7, g_1_8, g_1_9, r_2, r_3, r_4, r_5, r_6, r_7, r_8, o_9, g_9_0, g_9_1, g_9_2, g_9_3, g_9_4, g_9_5, g_9_6, g_9_7, g_9_8, g_9_9, r_10, r_11, r_12, r_13, r_14, r_15, r_16, o_17, g_17_0, g_17_1, g_17_2, g_17_3, g_17_4, r_18, r_19, r_20, r_22, r_23, r_24, r_25, r_26, r_27, r_28, o_29, g_29_0, g_29_1, g_29_2, g_29_3, g_29_4, g_29_5, g_29_6, g_29_7, g_29_8, g_29_9, r_30, r_31, r_32, r_33, r_34, r_35, r_36, o_37, g_37_0, g_37_1, g_37_2, g_37_3, g_37_4, g_37_5, g_37_6, g_37_7, g_37_8, g_37_9, r_38, r_39, r_40, r_41, r_42, r_43, r_44, o_45, g_45_0, g_45_1, g_45_2, g_45_3, g_45_4, g_45_5, g_45_6, g_45_7, g_45_8, g_45_9, r_46, r_47, r_48, r_49, r_50, r_51, r_52, o_53, g_53_0, g_53_1, g_53_2, g_53_3, g_53_4, g_53_5, g_53_6, g_53_7, g_53_8, g_53_9, r_54, r_55, r_56, r_57, r_58, r_59, r_60, o_61, g_61_0, g_61_1, g_61_2, g_61_3, g_61_4, g_61_5, g_61_6, g_61_7, g_61_8, g_61_9, g_61_10, g_61_11, g_61_12, g_61_13, g_61_14, g_61_15, g_61_16, g_61_17, g_61_18, g_61_19, g_61_20, g_61_21, g_61_22, g_61_23, r_62, r_63, r_64, r_65, r_66, r_67, r_68, r_69, r_70, r_71, r_72, r_73, r_74, r_75, r_76, r_77, Option.bind_some, leN, if_neg (show ¬ T ≤ k by omega), e2, bind2, em, if_neg c, e3, add1]
          rw [scS_s, if_neg c]
        · intro hk1 p hp
          rw [scS_s, if_neg c, (v3 p hp).1, (v3 p hp).2]
          exact v2 p hp
    · rintro a fuel ⟨m1, rfl, hv, hf⟩
      refine ⟨_, ?_, m1, rfl, hv, hf⟩
      simp (disch := omega) only [l_X3_scatter_77, o_0, g_0_0, g_0_1, g_0_2, g_0_3, g_0_4, g_0_5, g_0_6, g_0_7, g_0_8, g_0_9, g_0_10, g_0_11, o_1, g_1_0, g_1_1, g_1_2, g_1_3, g_1_4, g_1_5, g_1_6, g_1_7, g_1_8, g_1_9, r_2, r_3, r_4, r_5, r_6, r_7, r_8, o_9, g_9_0, g_9_1, g_9_2, g_9_3, g_9_4, g_9_5, g_9_6, g_9_7, g_9_8, g_9_9, r_10, r_11, r_12, r_13, r_14, r_15, r_16, o_17, g_17_0, g_17_1, g_17_2, g_17_3, g_17_4, r_18, r_19, r_20, r_22, r_23, r_24, r_25, r_26, r_27, r_28, o_29, g_29_0, g_29_1, g_29_2, g_29_3, g_29_4, g_29_5, g_29_6, g_29_7, g_29_8, g_29_9, r_30, r_31, r_32, r_33, r_34, r_35, r_36, o_37, g_37_0, g_37_1, g_37_2, g_37_3, g_37_4, g_37_5, g_37_6, g_37_7, g_37_8, g_37_9, r_38, r_39, r_40, r_41, r_42, r_43, r_44, o_45, g_45_0, g_45_1, g_45_2, g_45_3, g_45_4, g_45_5, g_45_6, g_45_7, g_45_8, g_45_9, r_46, r_47, r_48, r_49, r_50, r_51, r_52, o_53, g_53_0, g_53_1, g_53_2, g_53_3, g_53_4, g_53_5, g_53_6, g_53_7, g_53_8, g_53_9, r_54, r_55, r_56, r_57, r_58, r_59, r_60, o_61, g_61_0, g_61_1, g_61_2, g_61_3, g_61_4, g_61_5, g_61_6, g_61_7, g_61_8, g_61_9, g_61_10, g_61_11, g_61_12, g_61_13, g_61_14, g_61_15, g_61_16, g_61_17, g_61_18, g_61_19, g_61_20, g_61_21, g_61_22, g_61_23, r_62, r_63, r_64, r_65, r_66, r_67, r_68, r_69, r_70, r_71, r_72, r_73, r_74, r_75, r_76, r_77, Option.bind_some, leN, if_pos (Nat.le_refl T)]
  obtain ⟨b, e, m1, rfl, hv, hf⟩ := key
  exact ⟨m1, e, hv h1, hf⟩
/-! the reference -/
theorem m_pl60 {n : Nat} (hn : n38 n) {m : Mem} (h0 : m.I 62 0 = nI n) {r : Int32} (hr : rOk r) (x : Int64) : l_X4_scatter_60 61 r FU x 0 (HH m) = some (sq x (2 * n), HH (m.rI 62 (plR n (pv r x) (m.I 62)))) := by
  have h8 := hn.2
  have key : ∃ b, l_X4_scatter_60 61 r FU x (nI 0) (HH m) = some b ∧ b = (sq x (2 * n), HH (m.rI 62 (plR n (pv r x) (m.I 62)))) := by
    refine loopR (fun fuel (a : Int64 × Int32 × Hp) => l_X4_scatter_60 61 r fuel a.1 a.2.1 a.2.2) (fun k a => a = (sq x k, nI k, HH (m.rI 62 (fun j => if 227 ≤ j ∧ j < 227 + k then pv r x (j - 227) else m.I 62 j)))) _ (2 * n) ?_ ?_ (2 * n) 0 (x, nI 0, HH m) FU (by omega) (FUx (by omega)) ?_
    · rintro k a fuel hk rfl
      have e0 : (m.rI 62 (fun j => if 227 ≤ j ∧ j < 227 + k then pv r x (j - 227) else m.I 62 j)).I 62 0 = nI n := by
        rw [rI_I, if_neg (by omega)]
        exact h0
      have ea : aI (HH (m.rI 62 (fun j => if 227 ≤ j ∧ j < 227 + k then pv r x (j - 227) else m.I 62 j))) 62 0 = some (nI n) := (r_62 _ (i := 0) (by omega)).trans (by rw [e0])
      have eg : gNJ (((2 : Int64) * r.toInt64) + (1 : Int64)) = some () := hr
      refine Or.inl ⟨(sq x (k + 1), nI (k + 1), HH (m.rI 62 (fun j => if 227 ≤ j ∧ j < 227 + (k + 1) then pv r x (j - 227) else m.I 62 j))), ?_, rfl⟩
      have ew := w_62 (m.rI 62 (fun j => if 227 ≤ j ∧ j < 227 + k then pv r x (j - 227) else m.I 62 j)) (i := 227 + k) (by omega) (rco (nx (sq x k)) r)
      rw [rI_sI] at ew
      have er : upd (fun j => if 227 ≤ j ∧ j < 227 + k then pv r x (j - 227) else m.I 62 j) (227 + k) (rco (nx (sq x k)) r) = fun j => if 227 ≤ j ∧ j < 227 + (k + 1) then pv r x (j - 227) else m.I 62 j := by
        funext j
        rw [upd_g]
        by_cases c : j = 227 + k
        · rw [if_pos c, if_pos (by omega), show j - 227 = k by omega]
          rfl
        · rw [if_neg c]
          by_cases d : 227 ≤ j ∧ j < 227 + k
          · rw [if_pos d, if_pos (by omega)]
          · rw [if_neg d, if_neg (by omega)]
      rw [er] at ew
      rw [l_X4_scatter_60, g_61_0, Option.bind_some, ea, Option.bind_some, show (2 : Int32) * nI n = nI (2 * n) from pk_mul 2 n, if_neg (show ¬ nI (2 * n) ≤ nI k from fun q => by rw [nI_leI (by omega) (by omega)] at q; omega), Option.bind_some, eg, Option.bind_some, show (227 : Int32) + nI k = nI (227 + k) from nI_add 227 k, add_1]
      show ((wI (HH (m.rI 62 (fun j => if 227 ≤ j ∧ j < 227 + k then pv r x (j - 227) else m.I 62 j))) 62 (nI (227 + k)) (rco (nx (sq x k)) r)).bind fun h21 => l_X4_scatter_60 61 r fuel (nx (sq x k)) (nI (k + 1)) h21) = _
      rw [ew, Option.bind_some]
      rfl
    · rintro a fuel rfl
      have e0 : (m.rI 62 (fun j => if 227 ≤ j ∧ j < 227 + 2 * n then pv r x (j - 227) else m.I 62 j)).I 62 0 = nI n := by
        rw [rI_I, if_neg (by omega)]
        exact h0
      have ea : aI (HH (m.rI 62 (fun j => if 227 ≤ j ∧ j < 227 + 2 * n then pv r x (j - 227) else m.I 62 j))) 62 0 = some (nI n) := (r_62 _ (i := 0) (by omega)).trans (by rw [e0])
      refine ⟨_, ?_, rfl⟩
      rw [l_X4_scatter_60, g_61_0, Option.bind_some, ea, Option.bind_some, show (2 : Int32) * nI n = nI (2 * n) from pk_mul 2 n, if_pos (Int32.le_refl _)]
      rfl
    · have : (fun j => if 227 ≤ j ∧ j < 227 + 0 then pv r x (j - 227) else m.I 62 j) = m.I 62 := by
        funext j
        rw [if_neg (by omega)]
      rw [this, rI_id]
      rfl
  obtain ⟨b, e, rfl⟩ := key
  exact e
theorem le16 {k : Nat} (hk : k < 2 ^ 31) : ((16 : Int32) ≤ nI k) = (16 ≤ k) := propext (nI_leI (a := 16) (by decide) hk)
theorem m_best (m : Mem) (v : Int32) : ∃ m1, l_X4_scatter_168 61 v FU 0 (HH m) = some (HH m1) ∧ (∀ c, c < 16 → m1.I 75 c = if v = 0 then m.I 75 c else m.I 62 (227 + c)) ∧ Fr (cC 75) m m1 := by
  have key : ∃ b, l_X4_scatter_168 61 v FU (nI 0) (HH m) = some b ∧ ∃ m1, b = HH m1 ∧ (∀ c, c < 16 → m1.I 75 c = if v = 0 then m.I 75 c else m.I 62 (227 + c)) ∧ Fr (cC 75) m m1 := by
    refine loopR (fun fuel (a : Int32 × Hp) => l_X4_scatter_168 61 v fuel a.1 a.2) (fun k a => ∃ m1, a = (nI k, HH m1) ∧ (∀ c, m1.I 75 c = if c < k ∧ ¬ v = 0 then m.I 62 (227 + c) else m.I 75 c) ∧ Fr (cC 75) m m1) _ 16 ?_ ?_ 16 0 (nI 0, HH m) FU (by omega) (FUx (by omega)) ⟨m, rfl, fun c => (if_neg (by omega)).symm, Fr_rf _ m⟩
    · rintro k a fuel hk ⟨m1, rfl, hv, hf⟩
      have e62 : m1.I 62 = m.I 62 := (hf.1 62 (by unfold cC; omega)).1
      by_cases c : v = 0
      · refine Or.inl ⟨(nI (k + 1), HH (m1.sI 75 k (m1.I 75 k))), ?_, _, rfl, ?_, Fr_sI hf rfl⟩
        · simp (disch := omega) only [l_X4_scatter_168, le16, if_neg (show ¬ 16 ≤ k by omega), o_0, g_0_0, g_0_1, g_0_2, g_0_3, g_0_4, p_0_4, g_0_5, g_0_6, g_0_7, g_0_8, g_0_9, g_0_10, g_0_11, o_1, g_1_0, p_1_0, g_1_1, p_1_1, g_1_2, p_1_2, g_1_3, g_1_4, g_1_5, g_1_6, g_1_7, g_1_8, g_1_9, r_2, w_2, r_3, w_3, r_4, w_4, r_5, w_5, r_6, w_6, r_7, w_7, r_8, w_8, o_9, g_9_0, p_9_0, g_9_1, p_9_1, g_9_2, p_9_2, g_9_3, g_9_4, g_9_5, g_9_6, g_9_7, g_9_8, g_9_9, r_10, w_10, r_11, w_11, r_12, w_12, r_13, w_13, r_14, w_14, r_15, w_15, r_16, w_16, o_17, g_17_0, g_17_1, p_17_1, g_17_2, g_17_3, g_17_4, p_17_4, r_18, w_18, r_19, w_19, r_20, w_20, r_22, w_22, r_23, w_23, r_24, w_24, r_25, w_25, r_26, w_26, r_27, w_27, r_28, w_28, o_29, g_29_0, p_29_0, g_29_1, p_29_1, g_29_2, p_29_2, g_29_3, g_29_4, g_29_5, g_29_6, g_29_7, g_29_8, g_29_9, r_30, w_30, r_31, w_31, r_32, w_32, r_33, w_33, r_34, w_34, r_35, w_35, r_36, w_36, o_37, g_37_0, p_37_0, g_37_1, p_37_1, g_37_2, p_37_2, g_37_3, g_37_4, g_37_5, g_37_6, g_37_7, g_37_8, g_37_9, r_38, w_38, r_39, w_39, r_40, w_40, r_41, w_41, r_42, w_42, r_43, w_43, r_44, w_44, o_45, g_45_0, p_45_0, g_45_1, p_45_1, g_45_2, p_45_2, g_45_3, g_45_4, g_45_5, g_45_6, g_45_7, g_45_8, g_45_9, r_46, w_46, r_47, w_47, r_48, w_48, r_49, w_49, r_50, w_50, r_51, w_51, r_52, w_52, o_53, g_53_0, p_53_0, g_53_1, p_53_1, g_53_2, p_53_2, g_53_3, g_53_4, g_53_5, g_53_6, g_53_7, g_53_8, g_53_9, r_54, w_54, r_55, w_55, r_56, w_56, r_57, w_57, r_58, w_58, r_59, w_59, r_60, w_60, o_61, g_61_0, g_61_1, g_61_2, g_61_3, p_61_3, g_61_4, g_61_5, p_61_5, g_61_6, p_61_6, g_61_7, g_61_8, g_61_9, p_61_9, g_61_10, g_61_11, p_61_11, g_61_12, p_61_12, g_61_13, g_61_14, g_61_15, g_61_16, g_61_17, g_61_18, g_61_19, g_61_20, p_61_20, g_61_21, p_61_21, g_61_22, g_61_23, p_61_23, r_62, w_62, r_63, w_63, r_64, w_64, r_65, w_65, r_66, w_66, r_67, w_67, r_68, w_68, r_69, w_69, r_70, w_70, r_71, w_71, r_72, w_72, r_73, w_73, r_74, w_74, r_75, w_75, r_76, w_76, r_77, w_77, Option.bind_some, if_pos c, add_1]
        · intro j
          rw [sI_at, hv, if_neg (show ¬ (k < k ∧ ¬ v = 0) from fun h => h.2 c), hv, if_neg (show ¬ (j < k ∧ ¬ v = 0) from fun h => h.2 c), if_neg (show ¬ (j < k + 1 ∧ ¬ v = 0) from fun h => h.2 c)]
          by_cases d : j = k
          · rw [if_pos d, d]
          · rw [if_neg d]
      · refine Or.inl ⟨(nI (k + 1), HH (m1.sI 75 k (m.I 62 (227 + k)))), ?_, _, rfl, ?_, Fr_sI hf rfl⟩
        · simp (disch := omega) only [l_X4_scatter_168, le16, if_neg (show ¬ 16 ≤ k by omega), show (227 : Int32) = nI 227 from rfl, nI_add, o_0, g_0_0, g_0_1, g_0_2, g_0_3, g_0_4, p_0_4, g_0_5, g_0_6, g_0_7, g_0_8, g_0_9, g_0_10, g_0_11, o_1, g_1_0, p_1_0, g_1_1, p_1_1, g_1_2, p_1_2, g_1_3, g_1_4, g_1_5, g_1_6, g_1_7, g_1_8, g_1_9, r_2, w_2, r_3, w_3, r_4, w_4, r_5, w_5, r_6, w_6, r_7, w_7, r_8, w_8, o_9, g_9_0, p_9_0, g_9_1, p_9_1, g_9_2, p_9_2, g_9_3, g_9_4, g_9_5, g_9_6, g_9_7, g_9_8, g_9_9, r_10, w_10, r_11, w_11, r_12, w_12, r_13, w_13, r_14, w_14, r_15, w_15, r_16, w_16, o_17, g_17_0, g_17_1, p_17_1, g_17_2, g_17_3, g_17_4, p_17_4, r_18, w_18, r_19, w_19, r_20, w_20, r_22, w_22, r_23, w_23, r_24, w_24, r_25, w_25, r_26, w_26, r_27, w_27, r_28, w_28, o_29, g_29_0, p_29_0, g_29_1, p_29_1, g_29_2, p_29_2, g_29_3, g_29_4, g_29_5, g_29_6, g_29_7, g_29_8, g_29_9, r_30, w_30, r_31, w_31, r_32, w_32, r_33, w_33, r_34, w_34, r_35, w_35, r_36, w_36, o_37, g_37_0, p_37_0, g_37_1, p_37_1, g_37_2, p_37_2, g_37_3, g_37_4, g_37_5, g_37_6, g_37_7, g_37_8, g_37_9, r_38, w_38, r_39, w_39, r_40, w_40, r_41, w_41, r_42, w_42, r_43, w_43, r_44, w_44, o_45, g_45_0, p_45_0, g_45_1, p_45_1, g_45_2, p_45_2, g_45_3, g_45_4, g_45_5, g_45_6, g_45_7, g_45_8, g_45_9, r_46, w_46, r_47, w_47, r_48, w_48, r_49, w_49, r_50, w_50, r_51, w_51, r_52, w_52, o_53, g_53_0, p_53_0, g_53_1, p_53_1, g_53_2, p_53_2, g_53_3, g_53_4, g_53_5, g_53_6, g_53_7, g_53_8, g_53_9, r_54, w_54, r_55, w_55, r_56, w_56, r_57, w_57, r_58, w_58, r_59, w_59, r_60, w_60, o_61, g_61_0, g_61_1, g_61_2, g_61_3, p_61_3, g_61_4, g_61_5, p_61_5, g_61_6, p_61_6, g_61_7, g_61_8, g_61_9, p_61_9, g_61_10, g_61_11, p_61_11, g_61_12, p_61_12, g_61_13, g_61_14, g_61_15, g_61_16, g_61_17, g_61_18, g_61_19, g_61_20, p_61_20, g_61_21, p_61_21, g_61_22, g_61_23, p_61_23, r_62, w_62, r_63, w_63, r_64, w_64, r_65, w_65, r_66, w_66, r_67, w_67, r_68, w_68, r_69, w_69, r_70, w_70, r_71, w_71, r_72, w_72, r_73, w_73, r_74, w_74, r_75, w_75, r_76, w_76, r_77, w_77, Option.bind_some, if_neg c, e62, add_1]
        · intro j
          rw [sI_at, hv]
          by_cases d : j = k
          · rw [if_pos d, if_pos ⟨by omega, c⟩, d]
          · rw [if_neg d]
            exact ifI ⟨fun h => ⟨by omega, h.2⟩, fun h => ⟨by omega, h.2⟩⟩
    · rintro a fuel ⟨m1, rfl, hv, hf⟩
      refine ⟨_, ?_, m1, rfl, fun c hc => ?_, hf⟩
      · simp (disch := omega) only [l_X4_scatter_168, le16, if_pos (Nat.le_refl 16)]
      · rw [hv]
        by_cases d : v = 0
        · rw [if_neg (fun h => h.2 d), if_pos d]
        · rw [if_pos ⟨hc, d⟩, if_neg d]
  obtain ⟨b, e, m1, rfl, hv, hf⟩ := key
  exact ⟨m1, e, hv, hf⟩
theorem m_last (m : Mem) : l_X4_scatter_223 61 FU 0 (HH m) = some (HH (m.rI 62 (fun j => if 227 ≤ j ∧ j < 243 then m.I 75 (j - 227) else m.I 62 j))) := by
  have key : ∃ b, l_X4_scatter_223 61 FU (nI 0) (HH m) = some b ∧ b = HH (m.rI 62 (fun j => if 227 ≤ j ∧ j < 243 then m.I 75 (j - 227) else m.I 62 j)) := by
    refine loopR (fun fuel (a : Int32 × Hp) => l_X4_scatter_223 61 fuel a.1 a.2) (fun k a => a = (nI k, HH (m.rI 62 (fun j => if 227 ≤ j ∧ j < 227 + k then m.I 75 (j - 227) else m.I 62 j)))) _ 16 ?_ ?_ 16 0 (nI 0, HH m) FU (by omega) (FUx (by omega)) ?_
    · rintro k a fuel hk rfl
      refine Or.inl ⟨(nI (k + 1), HH (m.rI 62 (fun j => if 227 ≤ j ∧ j < 227 + (k + 1) then m.I 75 (j - 227) else m.I 62 j))), ?_, rfl⟩
      have er : upd (fun j => if 227 ≤ j ∧ j < 227 + k then m.I 75 (j - 227) else m.I 62 j) (227 + k) (m.I 75 k) = fun j => if 227 ≤ j ∧ j < 227 + (k + 1) then m.I 75 (j - 227) else m.I 62 j := by
        funext j
        rw [upd_g]
        by_cases c : j = 227 + k
        · rw [if_pos c, if_pos (by omega), show j - 227 = k by omega]
        · rw [if_neg c]
          by_cases d : 227 ≤ j ∧ j < 227 + k
          · rw [if_pos d, if_pos (by omega)]
          · rw [if_neg d, if_neg (by omega)]
      have e75 : ∀ f, (m.rI 62 f).I 75 k = m.I 75 k := fun f => rfl
      simp (disch := omega) only [l_X4_scatter_223, le16, if_neg (show ¬ 16 ≤ k by omega), show (227 : Int32) = nI 227 from rfl, nI_add, o_0, g_0_0, g_0_1, g_0_2, g_0_3, g_0_4, p_0_4, g_0_5, g_0_6, g_0_7, g_0_8, g_0_9, g_0_10, g_0_11, o_1, g_1_0, p_1_0, g_1_1, p_1_1, g_1_2, p_1_2, g_1_3, g_1_4, g_1_5, g_1_6, g_1_7, g_1_8, g_1_9, r_2, w_2, r_3, w_3, r_4, w_4, r_5, w_5, r_6, w_6, r_7, w_7, r_8, w_8, o_9, g_9_0, p_9_0, g_9_1, p_9_1, g_9_2, p_9_2, g_9_3, g_9_4, g_9_5, g_9_6, g_9_7, g_9_8, g_9_9, r_10, w_10, r_11, w_11, r_12, w_12, r_13, w_13, r_14, w_14, r_15, w_15, r_16, w_16, o_17, g_17_0, g_17_1, p_17_1, g_17_2, g_17_3, g_17_4, p_17_4, r_18, w_18, r_19, w_19, r_20, w_20, r_22, w_22, r_23, w_23, r_24, w_24, r_25, w_25, r_26, w_26, r_27, w_27, r_28, w_28, o_29, g_29_0, p_29_0, g_29_1, p_29_1, g_29_2, p_29_2, g_29_3, g_29_4, g_29_5, g_29_6, g_29_7, g_29_8, g_29_9, r_30, w_30, r_31, w_31, r_32, w_32, r_33, w_33, r_34, w_34, r_35, w_35, r_36, w_36, o_37, g_37_0, p_37_0, g_37_1, p_37_1, g_37_2, p_37_2, g_37_3, g_37_4, g_37_5, g_37_6, g_37_7, g_37_8, g_37_9, r_38, w_38, r_39, w_39, r_40, w_40, r_41, w_41, r_42, w_42, r_43, w_43, r_44, w_44, o_45, g_45_0, p_45_0, g_45_1, p_45_1, g_45_2, p_45_2, g_45_3, g_45_4, g_45_5, g_45_6, g_45_7, g_45_8, g_45_9, r_46, w_46, r_47, w_47, r_48, w_48, r_49, w_49, r_50, w_50, r_51, w_51, r_52, w_52, o_53, g_53_0, p_53_0, g_53_1, p_53_1, g_53_2, p_53_2, g_53_3, g_53_4, g_53_5, g_53_6, g_53_7, g_53_8, g_53_9, r_54, w_54, r_55, w_55, r_56, w_56, r_57, w_57, r_58, w_58, r_59, w_59, r_60, w_60, o_61, g_61_0, g_61_1, g_61_2, g_61_3, p_61_3, g_61_4, g_61_5, p_61_5, g_61_6, p_61_6, g_61_7, g_61_8, g_61_9, p_61_9, g_61_10, g_61_11, p_61_11, g_61_12, p_61_12, g_61_13, g_61_14, g_61_15, g_61_16, g_61_17, g_61_18, g_61_19, g_61_20, p_61_20, g_61_21, p_61_21, g_61_22, g_61_23, p_61_23, r_62, w_62, r_63, w_63, r_64, w_64, r_65, w_65, r_66, w_66, r_67, w_67, r_68, w_68, r_69, w_69, r_70, w_70, r_71, w_71, r_72, w_72, r_73, w_73, r_74, w_74, r_75, w_75, r_76, w_76, r_77, w_77, Option.bind_some, e75, rI_sI, er, add_1]
    · rintro a fuel rfl
      refine ⟨_, ?_, rfl⟩
      simp (disch := omega) only [l_X4_scatter_223, le16, if_pos (Nat.le_refl 16)]
    · have : (fun j => if 227 ≤ j ∧ j < 227 + 0 then m.I 75 (j - 227) else m.I 62 j) = m.I 62 := by
        funext j
        rw [if_neg (by omega)]
      rw [this, rI_id]
  obtain ⟨b, e, rfl⟩ := key
  exact e
theorem sAt_cg {n : Nat} (hn : n38 n) {X X' Y Y' : Nat → Int32} (hX : ∀ p, p < n → X' p = X p) (hY : ∀ p, p < n → Y' p = Y p) {t : Nat} (ht : t < nT n) : sAt n X' Y' t = sAt n X Y t := by
  unfold sAt area
  rw [hX _ (cor_lt hn t ht 0 (by omega)), hX _ (cor_lt hn t ht 1 (by omega)), hX _ (cor_lt hn t ht 2 (by omega)), hY _ (cor_lt hn t ht 0 (by omega)), hY _ (cor_lt hn t ht 1 (by omega)), hY _ (cor_lt hn t ht 2 (by omega))]
theorem mis_cg {n : Nat} (hn : n38 n) {s s' X X' Y Y' : Nat → Int32} (hs : ∀ j, j < 227 → s' j = s j) (hX : ∀ p, p < n → X' p = X p) (hY : ∀ p, p < n → Y' p = Y p) : mis n s' X' Y' (nT n) = mis n s X Y (nT n) := by
  have hT := nT_le hn
  refine cntN_cg _ _ _ (fun k hk => ?_)
  rw [hs _ (show 3 + 4 * k + 1 < 227 by omega), hs _ (show 3 + 4 * k < 227 by omega), sAt_cg hn hX hY hk]
def cQ (a : Nat) : Prop := a = 62 ∨ a = 75
theorem LM_Q {n : Nat} {m m1 : Mem} (h : LM n m) (f : Fr cQ m m1) : LM n m1 := LM_f h f (by unfold cQ; omega) (by unfold cQ; omega) (by unfold cQ; omega) (by unfold cQ; omega)
theorem m_tries51 {n : Nat} {m : Mem} {M : Nat → Int64} (g : GG n (m.I 62) M) (hL : LM n m) {r : Int32} (hr : rOk r) (x0 : Int64) {T : Nat} (hT : T ≤ 50) (h1 : 1 ≤ T) :
    ∃ m1, l_X4_scatter_51 61 (nI T) r FU x0 (-100) 0 (HH m) = some (nI (scS n (m.I 62) r x0 T).1, HH m1) ∧ (∀ j, ¬ (227 ≤ j ∧ j < 227 + 2 * n) → m1.I 62 j = m.I 62 j) ∧ (∀ c, c < 16 → m1.I 75 c = if c < 2 * n then (scS n (m.I 62) r x0 T).2.2 c else m.I 62 (227 + c)) ∧ Fr cQ m m1 := by
  have hn := g.1
  have h8 := hn.2
  have hTT := nT_le hn
  have key : ∃ b, l_X4_scatter_51 61 (nI T) r FU x0 (-100) (nI 0) (HH m) = some b ∧ ∃ m1, b = (if T = 0 then -100 else nI (scS n (m.I 62) r x0 T).1, HH m1) ∧ (∀ j, ¬ (227 ≤ j ∧ j < 227 + 2 * n) → m1.I 62 j = m.I 62 j) ∧ (1 ≤ T → ∀ c, c < 16 → m1.I 75 c = if c < 2 * n then (scS n (m.I 62) r x0 T).2.2 c else m.I 62 (227 + c)) ∧ Fr cQ m m1 := by
    refine loopR (fun fuel (a : Int64 × Int32 × Int32 × Hp) => l_X4_scatter_51 61 (nI T) r fuel a.1 a.2.1 a.2.2.1 a.2.2.2) (fun k a => ∃ m1, a = ((scS n (m.I 62) r x0 k).2.1, (if k = 0 then -100 else nI (scS n (m.I 62) r x0 k).1), nI k, HH m1) ∧ (∀ j, ¬ (227 ≤ j ∧ j < 227 + 2 * n) → m1.I 62 j = m.I 62 j) ∧ (1 ≤ k → ∀ c, c < 16 → m1.I 75 c = if c < 2 * n then (scS n (m.I 62) r x0 k).2.2 c else m.I 62 (227 + c)) ∧ Fr cQ m m1) _ T ?_ ?_ T 0 (x0, -100, nI 0, HH m) FU (by omega) (FUx (by omega)) ⟨m, by rw [if_pos rfl]; rfl, fun _ _ => rfl, fun h => absurd h (by omega), Fr_rf _ m⟩
    · rintro k a fuel hk ⟨m1, rfl, hj, hb, hf⟩
      have hL1 := LM_Q hL hf
      have e0 : m1.I 62 0 = nI n := by rw [hj 0 (by omega)]; exact g.2.1
      have e60 := m_pl60 hn e0 hr (scS n (m.I 62) r x0 k).2.1
      obtain ⟨x, ex⟩ : ∃ x, x = (scS n (m.I 62) r x0 k).2.1 := ⟨_, rfl⟩
      rw [← ex] at e60
      obtain ⟨m2, em2⟩ : ∃ m2, m2 = m1.rI 62 (plR n (pv r x) (m1.I 62)) := ⟨_, rfl⟩
      rw [← em2] at e60
      have f2 : Fr cQ m1 m2 := by rw [em2]; exact Fr_rI (Fr_rf _ m1) (Or.inl rfl)
      have e62 : m2.I 62 = plR n (pv r x) (m1.I 62) := by rw [em2, rI_I]
      have lo : ∀ j, j < 227 → m2.I 62 j = m.I 62 j := fun j hj2 => by
        rw [e62]
        unfold plR
        rw [if_neg (by omega), hj j (by omega)]
      have g2 : GG n (m2.I 62) M := GG_hi g lo
      have hL2 := LM_Q hL1 f2
      have ew := m_wrong g2 hL2
      have emis : mis n (m2.I 62) (rX (m2.I 62)) (rY (m2.I 62)) (nT n) = mis n (m.I 62) (fun p => pv r x (2 * p)) (fun p => pv r x (2 * p + 1)) (nT n) := by
        refine mis_cg hn lo (fun p hp => ?_) (fun p hp => ?_)
        · unfold rX
          rw [e62]
          unfold plR
          rw [if_pos (by omega), show 227 + 2 * p - 227 = 2 * p by omega]
        · unfold rY
          rw [e62]
          unfold plR
          rw [if_pos (by omega), show 227 + 2 * p + 1 - 227 = 2 * p + 1 by omega]
      rw [emis] at ew
      have hle := mis_le n (m.I 62) (fun p => pv r x (2 * p)) (fun p => pv r x (2 * p + 1)) (nT n)
      have hle2 := scS_le hn (m.I 62) r x0 k
      have hS := scS_s n (m.I 62) r x0 k
      rw [← ex] at hS
      obtain ⟨its, eits⟩ : ∃ its, its = mis n (m.I 62) (fun p => pv r x (2 * p)) (fun p => pv r x (2 * p + 1)) (nT n) := ⟨_, rfl⟩
      rw [← eits] at hS ew hle
      obtain ⟨f, ef⟩ : ∃ f, f = (scS n (m.I 62) r x0 k).1 := ⟨_, rfl⟩
      rw [← ef] at hS hle2
      have k0 : k = 0 → f = 57 := fun h => by rw [ef, h]; rfl
      by_cases c : f ≤ its
      · have kn : k ≠ 0 := fun h => by have := k0 h; omega
        rw [if_pos c] at hS
        obtain ⟨m3, e3, v3, f3⟩ := m_best m2 0
        have f3q : Fr cQ m2 m3 := Fr_w (d := cQ) f3 (fun a h => Or.inr h)
        refine Or.inl ⟨((scS n (m.I 62) r x0 (k + 1)).2.1, nI (scS n (m.I 62) r x0 (k + 1)).1, nI (k + 1), HH m3), ?_, m3, by rw [if_neg (by omega)], ?_, ?_, Fr_tr hf (Fr_tr f2 f3q)⟩
        · show l_X4_scatter_51 61 (nI T) r (fuel + 1) (scS n (m.I 62) r x0 k).2.1 (if k = 0 then -100 else nI (scS n (m.I 62) r x0 k).1) (nI k) (HH m1) = _
          rw [← ex, ← ef, if_neg kn, hS]
          simp (disch := omega) only [l_X4_scatter_51, leN, if_neg (show ¬ T ≤ k by omega), e60, bind2, ew, Option.bind_some, if_neg (nI_no (show f < 2 ^ 31 by omega)), if_pos c, if_true, e3, add_1]
        · intro j hj2
          rw [(f3.1 62 (by unfold cC; omega)).1, e62]
          unfold plR
          rw [if_neg hj2]
          exact hj j hj2
        · intro _ cc hc
          rw [v3 cc hc, if_pos rfl, hS, em2, rI_n _ _ (show 75 ≠ 62 by omega)]
          exact hb (by omega) cc hc
      · rw [if_neg c] at hS
        obtain ⟨m3, e3, v3, f3⟩ := m_best m2 1
        have f3q : Fr cQ m2 m3 := Fr_w (d := cQ) f3 (fun a h => Or.inr h)
        refine Or.inl ⟨((scS n (m.I 62) r x0 (k + 1)).2.1, nI (scS n (m.I 62) r x0 (k + 1)).1, nI (k + 1), HH m3), ?_, m3, by rw [if_neg (by omega)], ?_, ?_, Fr_tr hf (Fr_tr f2 f3q)⟩
        · show l_X4_scatter_51 61 (nI T) r (fuel + 1) (scS n (m.I 62) r x0 k).2.1 (if k = 0 then -100 else nI (scS n (m.I 62) r x0 k).1) (nI k) (HH m1) = _
          have e26 : (if (if k = 0 then (-100 : Int32) else nI f) = -100 then some (1 : Int32) else if (if k = 0 then (-100 : Int32) else nI f) ≤ nI its then some 0 else some 1) = some 1 := by
            by_cases d : k = 0
            · rw [if_pos d, if_pos rfl]
            · rw [if_neg d, if_neg (nI_no (show f < 2 ^ 31 by omega)), if_neg (fun h => by rw [nI_leI (by omega) (by omega)] at h; omega)]
          rw [← ex, ← ef, hS]
          simp (disch := omega) only [l_X4_scatter_51, leN, if_neg (show ¬ T ≤ k by omega), e60, bind2, ew, Option.bind_some, e26, if_neg (show ¬ (1 : Int32) = 0 by decide), e3, add_1]
        · intro j hj2
          rw [(f3.1 62 (by unfold cC; omega)).1, e62]
          unfold plR
          rw [if_neg hj2]
          exact hj j hj2
        · intro _ cc hc
          rw [v3 cc hc, if_neg (by decide), hS, e62]
          unfold plR
          by_cases d : cc < 2 * n
          · rw [if_pos d, if_pos (by omega), show 227 + cc - 227 = cc by omega]
          · rw [if_neg d, if_neg (by omega)]
            exact hj _ (by omega)
    · rintro a fuel ⟨m1, rfl, hj, hb, hf⟩
      refine ⟨_, ?_, m1, rfl, hj, hb, hf⟩
      simp (disch := omega) only [l_X4_scatter_51, leN, if_pos (Nat.le_refl T)]
  obtain ⟨b, e, m1, rfl, hj, hb, hf⟩ := key
  rw [if_neg (show ¬ T = 0 by omega)] at e
  exact ⟨m1, e, hj, hb h1, hf⟩
theorem i32_nat {x : Int32} (h : ¬ x < 0) : x = nI x.toInt.toNat ∧ x.toInt = (x.toInt.toNat : Int) := by
  rw [Int32.lt_iff_toInt_lt] at h
  have k : (0 : Int32).toInt = 0 := by decide
  have hb := x.toInt_lt
  have e : x.toInt = (x.toInt.toNat : Int) := by omega
  refine ⟨Int32.toInt_inj.mp ?_, e⟩
  rw [nI_toInt (by omega)]
  exact e
theorem k_scatter {m : Mem} (hi : INV m) (sd tr rg : Int32) : okW (f_L_scatter 0 sd tr rg 77) (f_X4_scatter 61 sd tr rg) m := by
  obtain ⟨n, s, M, q, P, PM, tl, tx, hC, hD, b⟩ := INV_out hi
  have hn := b.1.1
  have n0 : ¬ (1 : Int32) = 0 := by decide
  by_cases c1 : sd < 0
  · refine W_thr (k := 1) (by decide) ?_ hC b ⟨0, _, ?_, fl hD 1⟩
    · simp only [f_L_scatter, f_X3_scatter, o_0, Option.bind_some, bindTW, if_pos c1, if_true]
    · simp only [f_X4_scatter, o_61, Option.bind_some, in_n (Or.inl c1), if_true, m_fails, bind2]
  · by_cases c2 : 999999 < sd
    · refine W_thr (k := 1) (by decide) ?_ hC b ⟨0, _, ?_, fl hD 1⟩
      · simp only [f_L_scatter, f_X3_scatter, o_0, Option.bind_some, bindTW, if_neg c1, if_neg (nle_lt c2), if_true]
      · simp only [f_X4_scatter, o_61, Option.bind_some, in_n (Or.inr c2), if_true, m_fails, bind2]
    · by_cases c3 : tr < 1
      · refine W_thr (k := 1) (by decide) ?_ hC b ⟨0, _, ?_, fl hD 1⟩
        · simp only [f_L_scatter, f_X3_scatter, o_0, Option.bind_some, bindTW, if_neg c1, if_pos (le_nlt c2), if_pos c3, if_true]
        · simp only [f_X4_scatter, o_61, Option.bind_some, in_y c1 c2, if_neg n0, in_n (Or.inl c3), if_true, m_fails, bind2]
      · by_cases c4 : 50 < tr
        · refine W_thr (k := 1) (by decide) ?_ hC b ⟨0, _, ?_, fl hD 1⟩
          · simp only [f_L_scatter, f_X3_scatter, o_0, Option.bind_some, bindTW, if_neg c1, if_pos (le_nlt c2), if_neg c3, if_neg (nle_lt c4), if_true]
          · simp only [f_X4_scatter, o_61, Option.bind_some, in_y c1 c2, if_neg n0, in_n (Or.inr c4), if_true, m_fails, bind2]
        · by_cases c5 : rg < 1
          · refine W_thr (k := 1) (by decide) ?_ hC b ⟨0, _, ?_, fl hD 1⟩
            · simp only [f_L_scatter, f_X3_scatter, o_0, Option.bind_some, bindTW, if_neg c1, if_pos (le_nlt c2), if_neg c3, if_pos (le_nlt c4), if_pos c5, if_true]
            · simp only [f_X4_scatter, o_61, Option.bind_some, in_y c1 c2, in_y c3 c4, if_neg n0, in_n (Or.inl c5), if_true, m_fails, bind2]
          · by_cases c6 : 50 < rg
            · refine W_thr (k := 1) (by decide) ?_ hC b ⟨0, _, ?_, fl hD 1⟩
              · simp only [f_L_scatter, f_X3_scatter, o_0, Option.bind_some, bindTW, if_neg c1, if_pos (le_nlt c2), if_neg c3, if_pos (le_nlt c4), if_neg c5, if_neg (nle_lt c6), if_true]
              · simp only [f_X4_scatter, o_61, Option.bind_some, in_y c1 c2, in_y c3 c4, if_neg n0, in_n (Or.inr c6), if_true, m_fails, bind2]
            · have k0 : (0 : Int32).toInt = 0 := by decide
              have k1 : (1 : Int32).toInt = 1 := by decide
              have k50 : (50 : Int32).toInt = 50 := by decide
              obtain ⟨T, eT, hT1, hT2⟩ : ∃ T, tr = nI T ∧ 1 ≤ T ∧ T ≤ 50 := by
                have h0 : ¬ tr < 0 := fun h => c3 (by rw [Int32.lt_iff_toInt_lt] at h ⊢; omega)
                obtain ⟨e1, e2⟩ := i32_nat h0
                rw [Int32.lt_iff_toInt_lt] at c3 c4
                exact ⟨_, e1, by omega, by omega⟩
              have hr : rOk rg := by
                have h0 : ¬ rg < 0 := fun h => c5 (by rw [Int32.lt_iff_toInt_lt] at h ⊢; omega)
                obtain ⟨e1, e2⟩ := i32_nat h0
                rw [Int32.lt_iff_toInt_lt] at c5 c6
                rw [e1]
                exact rOk_0 _ (by omega)
              subst eT
              obtain ⟨m1, e1, C1, u1⟩ := C_now hC b
              obtain ⟨m2, e2, v2, f2⟩ := c_tries hn C1.1 C1.2.2.1 hr sd.toInt64 hT2 hT1
              have L2 := LC_x C1.1 f2
              have r2 : RS 9 m2 s M := RS_of C1.2.2.1 (fun a ha => f2.1 a (by unfold cS at ha; unfold cX; omega))
              obtain ⟨m3, e3, r3, f3⟩ := c_final hn L2 r2 v2
              obtain ⟨R, eR⟩ : ∃ R, R = plR n (scS n s rg sd.toInt64 T).2.2 s := ⟨_, rfl⟩
              rw [← eR] at r3
              have gR : GG n R M := GG_hi b.1 (fun k hk => by rw [eR]; exact if_neg (by omega))
              have C2 := CC_scr C1 (up4_le q b.2.1) f2
              have C3 := CC_now C2 (up4_le q b.2.1) f3 r3
              have U : upC m m3 := upC_tr u1 (upC_tr (upC_fr f2 (fun a h => by unfold cX at h; omega)) (upC_9 f3))
              refine W_ok (m1 := m3) (w := (nI (scS n s rg sd.toInt64 T).1).toInt64) ?_ C3 U hD (BB_psh b gR) (fun m4 hD4 => ?_)
              · simp only [f_L_scatter, f_X3_scatter, o_0, g_0_0, g_0_1, g_0_2, g_0_3, g_0_4, g_0_5, g_0_6, g_0_7, g_0_8, g_0_9, g_0_10, g_0_11, o_1, g_1_0, g_1_1, g_1_2, g_1_3, g_1_4, g_1_5, g_1_6, g_1_7, g_1_8, g_1_9, r_2, r_3, r_4, r_5, r_6, r_7, r_8, o_9, g_9_0, g_9_1, g_9_2, g_9_3, g_9_4, g_9_5, g_9_6, g_9_7, g_9_8, g_9_9, r_10, r_11, r_12, r_13, r_14, r_15, r_16, o_17, g_17_0, g_17_1, g_17_2, g_17_3, g_17_4, r_18, r_19, r_20, r_22, r_23, r_24, r_25, r_26, r_27, r_28, o_29, g_29_0, g_29_1, g_29_2, g_29_3, g_29_4, g_29_5, g_29_6, g_29_7, g_29_8, g_29_9, r_30, r_31, r_32, r_33, r_34, r_35, r_36, o_37, g_37_0, g_37_1, g_37_2, g_37_3, g_37_4, g_37_5, g_37_6, g_37_7, g_37_8, g_37_9, r_38, r_39, r_40, r_41, r_42, r_43, r_44, o_45, g_45_0, g_45_1, g_45_2, g_45_3, g_45_4, g_45_5, g_45_6, g_45_7, g_45_8, g_45_9, r_46, r_47, r_48, r_49, r_50, r_51, r_52, o_53, g_53_0, g_53_1, g_53_2, g_53_3, g_53_4, g_53_5, g_53_6, g_53_7, g_53_8, g_53_9, r_54, r_55, r_56, r_57, r_58, r_59, r_60, o_61, g_61_0, g_61_1, g_61_2, g_61_3, g_61_4, g_61_5, g_61_6, g_61_7, g_61_8, g_61_9, g_61_10, g_61_11, g_61_12, g_61_13, g_61_14, g_61_15, g_61_16, g_61_17, g_61_18, g_61_19, g_61_20, g_61_21, g_61_22, g_61_23, r_62, r_63, r_64, r_65, r_66, r_67, r_68, r_69, r_70, r_71, r_72, r_73, r_74, r_75, r_76, r_77, Option.bind_some, bindTW, if_neg c1, if_pos (le_nlt c2), if_neg c3, if_pos (le_nlt c4), if_neg c5, if_pos (le_nlt c6), e1, e2, bind2, e3, w77]
              · obtain ⟨m5, e5, D5, a5, u5⟩ := d_hold hD4
                have g5 : GG n (m5.I 62) M := by rw [D5.2.1]; exact b.1
                obtain ⟨m6, e6, j6, b6, f6⟩ := m_tries51 g5 D5.1 hr sd.toInt64 hT2 hT1
                rw [D5.2.1] at e6 j6 b6
                have e7 := m_last m6
                have er : (fun j => if 227 ≤ j ∧ j < 243 then m6.I 75 (j - 227) else m6.I 62 j) = R := by
                  rw [eR]
                  funext j
                  unfold plR
                  by_cases d : 227 ≤ j ∧ j < 243
                  · rw [if_pos d, b6 _ (by omega)]
                    by_cases d2 : j - 227 < 2 * n
                    · rw [if_pos d2, if_pos (by omega)]
                    · rw [if_neg d2, if_neg (by omega), show 227 + (j - 227) = j by omega]
                  · have := hn.2
                    rw [if_neg d, if_neg (by omega), j6 j (by omega)]
                rw [er] at e7
                have D6 : DD n (m6.I 62) q P tl tx m6 := DD_w D5 (fun k _ => by rw [(f6.1 61 (by unfold cQ; omega)).1]) (fun a h1 h2 h3 => (f6.1 a (by unfold cQ; omega)).1) rfl
                have D7 : DD n R q P tl tx (m6.rI 62 R) := DD_row D6
                obtain ⟨m8, e8, D8, z8, u8⟩ := d_ends D7 (AS_f a5 (by rw [rI_n _ _ (by omega), (f6.1 64 (by unfold cQ; omega)).1])) b.2.1 (nI (scS n s rg sd.toInt64 T).1)
                refine ⟨_, m8, ?_, rfl, D8, z8, upM_tr u5 (upM_tr (upM_fr f6 (fun a h => by unfold cQ at h; omega)) (upM_tr (r62 _ _) u8))⟩
                simp only [f_X4_scatter, o_61, Option.bind_some, in_y c1 c2, in_y c3 c4, in_y c5 c6, if_neg n0, e5, e6, bind2, e7, e8]
