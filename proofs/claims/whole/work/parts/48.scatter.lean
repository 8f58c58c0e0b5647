/-! placements at random -/
def nx (x : Int64) : Int64 := (((1103515245 : Int64) * x) + (12345 : Int64)) - (((1103515245 : Int64) * x) + (12345 : Int64)) / (2147483648 : Int64) * (2147483648 : Int64)
def rco (x : Int64) (r : Int32) : Int32 := ((x / (65536 : Int64)) - (x / (65536 : Int64)) / (((2 : Int64) * r.toInt64) + (1 : Int64)) * (((2 : Int64) * r.toInt64) + (1 : Int64))).toInt32 - r
def sq (x : Int64) : Nat → Int64
  | 0 => x
  | k + 1 => nx (sq x k)
theorem sq_s (x : Int64) (k : Nat) : sq x (k + 1) = nx (sq x k) := rfl
/-- the numbers of a placement, in order -/
def pv (r : Int32) (x : Int64) (c : Nat) : Int32 := rco (sq x (c + 1)) r
def rOk (r : Int32) : Prop := gNJ (((2 : Int64) * r.toInt64) + (1 : Int64)) = some ()
theorem rOk_0 : ∀ r, r < 51 → gNJ (((2 : Int64) * (nI r).toInt64) + (1 : Int64)) = some () := by decide +kernel
theorem rnd_e {r : Int32} (hr : rOk r) (x : Int64) : f_X3_randomCoordinate x r = some (rco x r) := by
  unfold f_X3_randomCoordinate
  rw [show gNJ _ = some () from hr, Option.bind_some]
  rfl
theorem nxt_e (x : Int64) : f_X3_nextRandom x = some (nx x) := rfl
def cP (a : Nat) : Prop := a = 25 ∨ a = 26
def cB (a : Nat) : Prop := a = 27 ∨ a = 28
theorem c_place {n : Nat} (hn : n38 n) {m : Mem} (hL : LC n m) {r : Int32} (hr : rOk r) (x : Int64) : ∃ m1, f_X3_tryPlacement 0 x r (HH m) = some (sq x (2 * n), HH m1) ∧ (∀ p, p < n → m1.I 25 p = pv r x (2 * p) ∧ m1.I 26 p = pv r x (2 * p + 1)) ∧ Fr cP m m1 := by
  have h8 := hn.2
  have key : ∃ b, l_X3_tryPlacement_6 0 r FU x (nI 0) (HH m) = some b ∧ ∃ m1, b = (sq x (2 * n), HH m1) ∧ (∀ p, p < n → m1.I 25 p = pv r x (2 * p) ∧ m1.I 26 p = pv r x (2 * p + 1)) ∧ Fr cP m m1 := by
    refine loopR (fun fuel (a : Int64 × Int32 × Hp) => l_X3_tryPlacement_6 0 r fuel a.1 a.2.1 a.2.2) (fun k a => ∃ m1, a = (sq x (2 * k), nI k, HH m1) ∧ (∀ p, p < k → m1.I 25 p = pv r x (2 * p) ∧ m1.I 26 p = pv r x (2 * p + 1)) ∧ Fr cP m m1) _ n ?_ ?_ n 0 (x, nI 0, HH m) FU (by omega) (FUx (by omega)) ⟨m, rfl, fun p hp => absurd hp (Nat.not_lt_zero p), Fr_rf _ m⟩
    · rintro k a fuel hk ⟨m1, rfl, hv, hf⟩
      have hL1 : LC n m1 := LC_of hL (fun a _ hb => hf.1 a (by unfold cP; omega))
      have e2 : sq x (2 * (k + 1)) = nx (nx (sq x (2 * k))) := by
        rw [show 2 * (k + 1) = 2 * k + 1 + 1 by omega, sq_s, sq_s]
      refine Or.inl ⟨(sq x (2 * (k + 1)), nI (k + 1), HH ((m1.sI 25 k (rco (nx (sq x (2 * k))) r)).sI 26 k (rco (nx (nx (sq x (2 * k)))) r))), ?_, _, rfl, ?_, Fr_sI (Fr_sI hf (Or.inl rfl)) (Or.inr rfl)⟩
      · simp (disch := omega) only [l_X3_tryPlacement_6, o_0, g_0_0, g_0_1, g_0_2, g_0_3, g_0_4, p_0_4, g_0_5, g_0_6, g_0_7, g_0_8, g_0_9, g_0_10, g_0_11, o_1, g_1_0, p_1_0, g_1_1, p_1_1, g_1_2, p_1_2, g_1_3, g_1_4, g_1_5, g_1_6, g_1_7, g_1_8, g_1_9, r_2, w_2, r_3, w_3, r_4, w_4, r_5, w_5, r_6, w_6, r_7, w_7, r_8, w_8, o_9, g_9_0, p_9_0, g_9_1, p_9_1, g_9_2, p_9_2, g_9_3, g_9_4, g_9_5, g_9_6, g_9_7, g_9_8, g_9_9, r_10, w_10, r_11, w_11, r_12, w_12, r_13, w_13, r_14, w_14, r_15, w_15, r_16, w_16, o_17, g_17_0, g_17_1, p_17_1, g_17_2, g_17_3, g_17_4, p_17_4, r_18, w_18, r_19, w_19, r_20, w_20, r_22, w_22, r_23, w_23, r_24, w_24, r_25, w_25, r_26, w_26, r_27, w_27, r_28, w_28, o_29, g_29_0, p_29_0, g_29_1, p_29_1, g_29_2, p_29_2, g_29_3, g_29_4, g_29_5, g_29_6, g_29_7, g_29_8, g_29_9, r_30, w_30, r_31, w_31, r_32, w_32, r_33, w_33, r_34, w_34, r_35, w_35, r_36, w_36, o_37, g_37_0, p_37_0, g_37_1, p_37_1, g_37_2, p_37_2, g_37_3, g_37_4, g_37_5, g_37_6, g_37_7, g_37_8, g_37_9, r_38, w_38, r_39, w_39, r_40, w_40, r_41, w_41, r_42, w_42, r_43, w_43, r_44, w_44, o_45, g_45_0, p_45_0, g_45_1, p_45_1, g_45_2, p_45_2, g_45_3, g_45_4, g_45_5, g_45_6, g_45_7, g_45_8, g_45_9, r_46, w_46, r_47, w_47, r_48, w_48, r_49, w_49, r_50, w_50, r_51, w_51, r_52, w_52, o_53, g_53_0, p_53_0, g_53_1, p_53_1, g_53_2, p_53_2, g_53_3, g_53_4, g_53_5, g_53_6, g_53_7, g_53_8, g_53_9, r_54, w_54, r_55, w_55, r_56, w_56, r_57, w_57, r_58, w_58, r_59, w_59, r_60, w_60, o_61, g_61_0, g_61_1, g_61_2, g_61_3, p_61_3, g_61_4, g_61_5, p_61_5, g_61_6, p_61_6, g_61_7, g_61_8, g_61_9, p_61_9, g_61_10, g_61_11, p_61_11, g_61_12, p_61_12, g_61_13, g_61_14, g_61_15, g_61_16, g_61_17, g_61_18, g_61_19, g_61_20, p_61_20, g_61_21, p_61_21, g_61_22, g_61_23, p_61_23, r_62, w_62, r_63, w_63, r_64, w_64, r_65, w_65, r_66, w_66, r_67, w_67, r_68, w_68, r_69, w_69, r_70, w_70, r_71, w_71, r_72, w_72, r_73, w_73, r_74, w_74, r_75, w_75, r_76, w_76, r_77, w_77, Option.bind_some, leN, hL1.1, if_neg (show ¬ n ≤ k by omega), nxt_e, rnd_e hr, add1, e2]
      · intro p hp
        rw [sI_of _ _ _ _ (show 25 ≠ 26 by omega), sI_at, sI_at, sI_of _ _ _ _ (show 26 ≠ 25 by omega)]
        by_cases c : p = k
        · rw [if_pos c, if_pos c, c]
          exact ⟨rfl, rfl⟩
        · rw [if_neg c, if_neg c]
          exact hv p (by omega)
    · rintro a fuel ⟨m1, rfl, hv, hf⟩
      have hL1 : LC n m1 := LC_of hL (fun a _ hb => hf.1 a (by unfold cP; omega))
      refine ⟨_, ?_, m1, rfl, hv, hf⟩
      simp (disch := omega) only [l_X3_tryPlacement_6, o_0, g_0_0, g_0_1, g_0_2, g_0_3, g_0_4, g_0_5, g_0_6, g_0_7, g_0_8, g_0_9, g_0_10, g_0_11, o_1, g_1_0, g_1_1, g_1_2, g_1_3, g_1_4, g_1_5, g_1_6, g_1_7, g_1_8, g_1_9, r_2, r_3, r_4, r_5, r_6, r_7, r_8, o_9, g_9_0, g_9_1, g_9_2, g_9_3, g_9_4, g_9_5, g_9_6, g_9_7, g_9_8, g_9_9, r_10, r_11, r_12, r_13, r_14, r_15, r_16, o_17, g_17_0, g_17_1, g_17_2, g_17_3, g_17_4, r_18, r_19, r_20, r_22, r_23, r_24, r_25, r_26, r_27, r_28, o_29, g_29_0, g_29_1, g_29_2, g_29_3, g_29_4, g_29_5, g_29_6, g_29_7, g_29_8, g_29_9, r_30, r_31, r_32, r_33, r_34, r_35, r_36, o_37, g_37_0, g_37_1, g_37_2, g_37_3, g_37_4, g_37_5, g_37_6, g_37_7, g_37_8, g_37_9, r_38, r_39, r_40, r_41, r_42, r_43, r_44, o_45, g_45_0, g_45_1, g_45_2, g_45_3, g_45_4, g_45_5, g_45_6, g_45_7, g_45_8, g_45_9, r_46, r_47, r_48, r_49, r_50, r_51, r_52, o_53, g_53_0, g_53_1, g_53_2, g_53_3, g_53_4, g_53_5, g_53_6, g_53_7, g_53_8, g_53_9, r_54, r_55, r_56, r_57, r_58, r_59, r_60, o_61, g_61_0, g_61_1, g_61_2, g_61_3, g_61_4, g_61_5, g_61_6, g_61_7, g_61_8, g_61_9, g_61_10, g_61_11, g_61_12, g_61_13, g_61_14, g_61_15, g_61_16, g_61_17, g_61_18, g_61_19, g_61_20, g_61_21, g_61_22, g_61_23, r_62, r_63, r_64, r_65, r_66, r_67, r_68, r_69, r_70, r_71, r_72, r_73, r_74, r_75, r_76, r_77, Option.bind_some, leN, hL1.1, if_pos (Nat.le_refl n)]
  obtain ⟨b, e, m1, rfl, hv, hf⟩ := key
  refine ⟨m1, ?_, hv, hf⟩
  simp only [f_X3_tryPlacement, o_0, Option.bind_some]
  rw [show l_X3_tryPlacement_6 0 r FU x 0 (HH m) = _ from e]
  rfl
theorem cpb1 (m : Mem) {n : Nat} (hn : n ≤ 8) : cpI (HH m) 25 0 27 0 (nI n) = some (HH (m.rI 27 (va_cpy (m.I 25) (m.I 27) 0 0 n))) := cpI_g (h := HH m) (a0 := 25) (a := 27) (c := n) rfl rfl (by omega) hn hn
theorem cpb2 (m : Mem) {n : Nat} (hn : n ≤ 8) : cpI (HH m) 26 0 28 0 (nI n) = some (HH (m.rI 28 (va_cpy (m.I 26) (m.I 28) 0 0 n))) := cpI_g (h := HH m) (a0 := 26) (a := 28) (c := n) rfl rfl (by omega) hn hn
theorem cpn1 (m : Mem) {n : Nat} (hn : n ≤ 8) : cpI (HH m) 27 0 15 0 (nI n) = some (HH (m.rI 15 (va_cpy (m.I 27) (m.I 15) 0 0 n))) := cpI_g (h := HH m) (a0 := 27) (a := 15) (c := n) rfl rfl (by omega) hn hn
theorem cpn2 (m : Mem) {n : Nat} (hn : n ≤ 8) : cpI (HH m) 28 0 16 0 (nI n) = some (HH (m.rI 16 (va_cpy (m.I 28) (m.I 16) 0 0 n))) := cpI_g (h := HH m) (a0 := 28) (a := 16) (c := n) rfl rfl (by omega) hn hn
theorem c_best {n : Nat} (hn : n38 n) {m : Mem} (hL : LC n m) : ∃ m1, f_X3_copyPoints 0 25 26 27 28 (HH m) = some (HH m1) ∧ (∀ p, p < n → m1.I 27 p = m.I 25 p ∧ m1.I 28 p = m.I 26 p) ∧ Fr cB m m1 := by
  have h8 := hn.2
  have f1 : Fr cB m (m.rI 27 (va_cpy (m.I 25) (m.I 27) 0 0 n)) := Fr_rI (Fr_rf _ m) (Or.inl rfl)
  have h10 : (m.rI 27 (va_cpy (m.I 25) (m.I 27) 0 0 n)).I 1 0 = nI n := hL.1
  refine ⟨((m.rI 27 (va_cpy (m.I 25) (m.I 27) 0 0 n)).rI 28 (va_cpy ((m.rI 27 (va_cpy (m.I 25) (m.I 27) 0 0 n)).I 26) ((m.rI 27 (va_cpy (m.I 25) (m.I 27) 0 0 n)).I 28) 0 0 n)), ?_, fun p hp => ⟨?_, ?_⟩, Fr_rI f1 (Or.inr rfl)⟩
  · simp only [f_X3_copyPoints, o_0, g_0_0, g_0_1, g_0_2, g_0_3, g_0_4, g_0_5, g_0_6, g_0_7, g_0_8, g_0_9, g_0_10, g_0_11, o_1, g_1_0, g_1_1, g_1_2, g_1_3, g_1_4, g_1_5, g_1_6, g_1_7, g_1_8, g_1_9, r_2, r_3, r_4, r_5, r_6, r_7, r_8, o_9, g_9_0, g_9_1, g_9_2, g_9_3, g_9_4, g_9_5, g_9_6, g_9_7, g_9_8, g_9_9, r_10, r_11, r_12, r_13, r_14, r_15, r_16, o_17, g_17_0, g_17_1, g_17_2, g_17_3, g_17_4, r_18, r_19, r_20, r_22, r_23, r_24, r_25, r_26, r_27, r_28, o_29, g_29_0, g_29_1, g_29_2, g_29_3, g_29_4, g_29_5, g_29_6, g_29_7, g_29_8, g_29_9, r_30, r_31, r_32, r_33, r_34, r_35, r_36, o_37, g_37_0, g_37_1, g_37_2, g_37_3, g_37_4, g_37_5, g_37_6, g_37_7, g_37_8, g_37_9, r_38, r_39, r_40, r_41, r_42, r_43, r_44, o_45, g_45_0, g_45_1, g_45_2, g_45_3, g_45_4, g_45_5, g_45_6, g_45_7, g_45_8, g_45_9, r_46, r_47, r_48, r_49, r_50, r_51, r_52, o_53, g_53_0, g_53_1, g_53_2, g_53_3, g_53_4, g_53_5, g_53_6, g_53_7, g_53_8, g_53_9, r_54, r_55, r_56, r_57, r_58, r_59, r_60, o_61, g_61_0, g_61_1, g_61_2, g_61_3, g_61_4, g_61_5, g_61_6, g_61_7, g_61_8, g_61_9, g_61_10, g_61_11, g_61_12, g_61_13, g_61_14, g_61_15, g_61_16, g_61_17, g_61_18, g_61_19, g_61_20, g_61_21, g_61_22, g_61_23, r_62, r_63, r_64, r_65, r_66, r_67, r_68, r_69, r_70, r_71, r_72, r_73, r_74, r_75, r_76, r_77, Option.bind_some, hL.1, cpb1 m h8, h10, cpb2 _ h8]
  · rw [rI_n _ _ (by omega), rI_I, cpy_at _ _ hp]
  · rw [rI_I, cpy_at _ _ hp, rI_n _ _ (by omega)]
/-- the row with other coordinates -/
def plR (n : Nat) (B : Nat → Int32) (s : Nat → Int32) (j : Nat) : Int32 := if 227 ≤ j ∧ j < 227 + 2 * n then B (j - 227) else s j
theorem c_final {n : Nat} (hn : n38 n) {m : Mem} (hL : LC n m) {s : Nat → Int32} {M : Nat → Int64} (hs : RS 9 m s M) {B : Nat → Int32} (hB : ∀ p, p < n → m.I 27 p = B (2 * p) ∧ m.I 28 p = B (2 * p + 1)) : ∃ m1, f_X3_copyPoints 0 27 28 15 16 (HH m) = some (HH m1) ∧ RS 9 m1 (plR n B s) M ∧ Fr (cS 9) m m1 := by
  have h8 := hn.2
  have f1 : Fr (cS 9) m (m.rI 15 (va_cpy (m.I 27) (m.I 15) 0 0 n)) := Fr_rI (Fr_rf _ m) ⟨by omega, by omega⟩
  have h10 : (m.rI 15 (va_cpy (m.I 27) (m.I 15) 0 0 n)).I 1 0 = nI n := hL.1
  refine ⟨((m.rI 15 (va_cpy (m.I 27) (m.I 15) 0 0 n)).rI 16 (va_cpy ((m.rI 15 (va_cpy (m.I 27) (m.I 15) 0 0 n)).I 28) ((m.rI 15 (va_cpy (m.I 27) (m.I 15) 0 0 n)).I 16) 0 0 n)), ?_, ?_, Fr_rI f1 ⟨by omega, by omega⟩⟩
  · simp only [f_X3_copyPoints, o_0, g_0_0, g_0_1, g_0_2, g_0_3, g_0_4, g_0_5, g_0_6, g_0_7, g_0_8, g_0_9, g_0_10, g_0_11, o_1, g_1_0, g_1_1, g_1_2, g_1_3, g_1_4, g_1_5, g_1_6, g_1_7, g_1_8, g_1_9, r_2, r_3, r_4, r_5, r_6, r_7, r_8, o_9, g_9_0, g_9_1, g_9_2, g_9_3, g_9_4, g_9_5, g_9_6, g_9_7, g_9_8, g_9_9, r_10, r_11, r_12, r_13, r_14, r_15, r_16, o_17, g_17_0, g_17_1, g_17_2, g_17_3, g_17_4, r_18, r_19, r_20, r_22, r_23, r_24, r_25, r_26, r_27, r_28, o_29, g_29_0, g_29_1, g_29_2, g_29_3, g_29_4, g_29_5, g_29_6, g_29_7, g_29_8, g_29_9, r_30, r_31, r_32, r_33, r_34, r_35, r_36, o_37, g_37_0, g_37_1, g_37_2, g_37_3, g_37_4, g_37_5, g_37_6, g_37_7, g_37_8, g_37_9, r_38, r_39, r_40, r_41, r_42, r_43, r_44, o_45, g_45_0, g_45_1, g_45_2, g_45_3, g_45_4, g_45_5, g_45_6, g_45_7, g_45_8, g_45_9, r_46, r_47, r_48, r_49, r_50, r_51, r_52, o_53, g_53_0, g_53_1, g_53_2, g_53_3, g_53_4, g_53_5, g_53_6, g_53_7, g_53_8, g_53_9, r_54, r_55, r_56, r_57, r_58, r_59, r_60, o_61, g_61_0, g_61_1, g_61_2, g_61_3, g_61_4, g_61_5, g_61_6, g_61_7, g_61_8, g_61_9, g_61_10, g_61_11, g_61_12, g_61_13, g_61_14, g_61_15, g_61_16, g_61_17, g_61_18, g_61_19, g_61_20, g_61_21, g_61_22, g_61_23, r_62, r_63, r_64, r_65, r_66, r_67, r_68, r_69, r_70, r_71, r_72, r_73, r_74, r_75, r_76, r_77, Option.bind_some, hL.1, cpn1 m h8, h10, cpn2 _ h8]
  · have o : ∀ j, j < 227 → plR n B s j = s j := fun j hj => if_neg (by omega)
    refine ⟨by rw [o _ (by omega)]; exact hs.1, by rw [o _ (by omega)]; exact hs.2.1, by rw [o _ (by omega)]; exact hs.2.2.1, fun t ht => ?_, fun p hp => ⟨?_, ?_⟩⟩
    · rw [o _ (by omega), o _ (by omega), o _ (by omega), o _ (by omega)]
      exact hs.2.2.2.1 t ht
    · show ((m.rI 15 (va_cpy (m.I 27) (m.I 15) 0 0 n)).rI 16 _).I 15 p = plR n B s (227 + 2 * p)
      rw [rI_n _ _ (by omega), rI_I]
      unfold plR
      by_cases c : p < n
      · rw [cpy_at _ _ c, if_pos (by omega), (hB p c).1, show 227 + 2 * p - 227 = 2 * p by omega]
      · rw [if_neg (by omega), pk_cpy_out (by omega)]
        exact (hs.2.2.2.2 p hp).1
    · show ((m.rI 15 (va_cpy (m.I 27) (m.I 15) 0 0 n)).rI 16 _).I 16 p = plR n B s (227 + 2 * p + 1)
      rw [rI_I, rI_n _ _ (show 28 ≠ 15 by omega), rI_n _ _ (show 16 ≠ 15 by omega)]
      unfold plR
      by_cases c : p < n
      · rw [cpy_at _ _ c, if_pos (by omega), (hB p c).2, show 227 + 2 * p + 1 - 227 = 2 * p + 1 by omega]
      · rw [if_neg (by omega), pk_cpy_out (by omega)]
        exact (hs.2.2.2.2 p hp).2
