/-! lines -/
theorem orI_1 (x b : Int32) : b ||| (x ||| b) = x ||| b := by
  have h : b ||| (x ||| b) = x ||| (b ||| b) := by ac_rfl
  rw [h]
  simp
theorem orI_2 (b x c : Int32) : b ||| (x ||| c) = (b ||| x) ||| c := by ac_rfl
theorem orJ_a (a b c : Int64) : (a ||| b) &&& c = (a &&& c) ||| (b &&& c) := by
  apply Int64.toBitVec_inj.mp
  simp
  ext i hi
  simp
  cases a.toBitVec[i] <;> cases b.toBitVec[i] <;> cases c.toBitVec[i] <;> rfl
theorem orJ_z (a b : Int64) : a ||| b = 0 ↔ a = 0 ∧ b = 0 := by
  constructor
  · intro h
    have h2 : (a ||| b).toBitVec = 0 := by rw [h]; rfl
    constructor
    · apply Int64.toBitVec_inj.mp
      ext i hi
      have := congrArg (fun x : BitVec 64 => x[i]) h2
      simp at this
      simp [this.1]
    · apply Int64.toBitVec_inj.mp
      ext i hi
      have := congrArg (fun x : BitVec 64 => x[i]) h2
      simp at this
      simp [this.2]
  · rintro ⟨rfl, rfl⟩
    rfl
def bX (k : Nat) : Int32 := (1 : Int32) <<< (nI k &&& 31)
/-- the set of points on a line, the first k of them looked at -/
def lmk (n : Nat) (s : Nat → Int32) (i j : Nat) : Nat → Int32
  | 0 => 0
  | k + 1 => if sgn n s i j k = 0 then lmk n s i j k ||| bX k else lmk n s i j k
theorem lmk_s (n : Nat) (s : Nat → Int32) (i j k : Nat) : lmk n s i j (k + 1) = if sgn n s i j k = 0 then lmk n s i j k ||| bX k else lmk n s i j k := rfl
theorem lmk_in {n : Nat} {s : Nat → Int32} {i j x : Nat} (hx : sgn n s i j x = 0) : ∀ k, x < k → bX x ||| lmk n s i j k = lmk n s i j k := by
  intro k
  induction k with
  | zero => intro h; omega
  | succ k ih =>
    intro h
    rw [lmk_s]
    by_cases c : x = k
    · subst c
      rw [if_pos hx, orI_1]
    · have := ih (by omega)
      split
      · rw [orI_2, this]
      · exact this
theorem c_mask {n : Nat} (hn : n38 n) {m : Mem} (hL : LC n m) {s : Nat → Int32} {M : Nat → Int64} (hs : RS 9 m s M) {i j : Nat} (hi : i < n) (hj : j < n) : f_X3_lineMask 0 (nI i) (nI j) (HH m) = some (lmk n s i j n) := by
  have h8 := hn.2
  have key : ∃ b, l_X3_lineMask_5 0 (nI i) (nI j) (HH m) FU 0 (nI 0) = some b ∧ b = lmk n s i j n := by
    refine loopR (fun fuel (a : Int32 × Int32) => l_X3_lineMask_5 0 (nI i) (nI j) (HH m) fuel a.1 a.2) (fun k a => a = (lmk n s i j k, nI k)) _ n ?_ ?_ n 0 (0, nI 0) FU (by omega) (FUx (by omega)) rfl
    · rintro k a fuel hk rfl
      refine Or.inl ⟨(lmk n s i j (k + 1), nI (k + 1)), ?_, rfl⟩
      simp (disch := omega) only [l_X3_lineMask_5, o_0, g_0_0, g_0_1, g_0_2, g_0_3, g_0_4, g_0_5, g_0_6, g_0_7, g_0_8, g_0_9, g_0_10, g_0_11, o_1, g_1_0, g_1_1, g_1_2, g_1_3, g_1_4, g_1_5, g_1_6, g_1_7, g_1_8, g_1_9, r_2, r_3, r_4, r_5, r_6, r_7, r_8, o_9, g_9_0, g_9_1, g_9_2, g_9_3, g_9_4, g_9_5, g_9_6, g_9_7, g_9_8, g_9_9, r_10, r_11, r_12, r_13, r_14, r_15, r_16, o_17, g_17_0, g_17_1, g_17_2, g_17_3, g_17_4, r_18, r_19, r_20, r_22, r_23, r_24, r_25, r_26, r_27, r_28, o_29, g_29_0, g_29_1, g_29_2, g_29_3, g_29_4, g_29_5, g_29_6, g_29_7, g_29_8, g_29_9, r_30, r_31, r_32, r_33, r_34, r_35, r_36, o_37, g_37_0, g_37_1, g_37_2, g_37_3, g_37_4, g_37_5, g_37_6, g_37_7, g_37_8, g_37_9, r_38, r_39, r_40, r_41, r_42, r_43, r_44, o_45, g_45_0, g_45_1, g_45_2, g_45_3, g_45_4, g_45_5, g_45_6, g_45_7, g_45_8, g_45_9, r_46, r_47, r_48, r_49, r_50, r_51, r_52, o_53, g_53_0, g_53_1, g_53_2, g_53_3, g_53_4, g_53_5, g_53_6, g_53_7, g_53_8, g_53_9, r_54, r_55, r_56, r_57, r_58, r_59, r_60, o_61, g_61_0, g_61_1, g_61_2, g_61_3, g_61_4, g_61_5, g_61_6, g_61_7, g_61_8, g_61_9, g_61_10, g_61_11, g_61_12, g_61_13, g_61_14, g_61_15, g_61_16, g_61_17, g_61_18, g_61_19, g_61_20, g_61_21, g_61_22, g_61_23, r_62, r_63, r_64, r_65, r_66, r_67, r_68, r_69, r_70, r_71, r_72, r_73, r_74, r_75, r_76, r_77, Option.bind_some, leN, hL.1, if_neg (show ¬ n ≤ k by omega), cl_sgn hn hL hs hi hj hk, add1, lmk_s]
      by_cases c : sgn n s i j k = 0
      · rw [if_pos c, if_pos c]
        rfl
      · rw [if_neg c, if_neg c]
        rfl
    · rintro a fuel rfl
      refine ⟨_, ?_, rfl⟩
      simp (disch := omega) only [l_X3_lineMask_5, o_0, g_0_0, g_0_1, g_0_2, g_0_3, g_0_4, g_0_5, g_0_6, g_0_7, g_0_8, g_0_9, g_0_10, g_0_11, o_1, g_1_0, g_1_1, g_1_2, g_1_3, g_1_4, g_1_5, g_1_6, g_1_7, g_1_8, g_1_9, r_2, r_3, r_4, r_5, r_6, r_7, r_8, o_9, g_9_0, g_9_1, g_9_2, g_9_3, g_9_4, g_9_5, g_9_6, g_9_7, g_9_8, g_9_9, r_10, r_11, r_12, r_13, r_14, r_15, r_16, o_17, g_17_0, g_17_1, g_17_2, g_17_3, g_17_4, r_18, r_19, r_20, r_22, r_23, r_24, r_25, r_26, r_27, r_28, o_29, g_29_0, g_29_1, g_29_2, g_29_3, g_29_4, g_29_5, g_29_6, g_29_7, g_29_8, g_29_9, r_30, r_31, r_32, r_33, r_34, r_35, r_36, o_37, g_37_0, g_37_1, g_37_2, g_37_3, g_37_4, g_37_5, g_37_6, g_37_7, g_37_8, g_37_9, r_38, r_39, r_40, r_41, r_42, r_43, r_44, o_45, g_45_0, g_45_1, g_45_2, g_45_3, g_45_4, g_45_5, g_45_6, g_45_7, g_45_8, g_45_9, r_46, r_47, r_48, r_49, r_50, r_51, r_52, o_53, g_53_0, g_53_1, g_53_2, g_53_3, g_53_4, g_53_5, g_53_6, g_53_7, g_53_8, g_53_9, r_54, r_55, r_56, r_57, r_58, r_59, r_60, o_61, g_61_0, g_61_1, g_61_2, g_61_3, g_61_4, g_61_5, g_61_6, g_61_7, g_61_8, g_61_9, g_61_10, g_61_11, g_61_12, g_61_13, g_61_14, g_61_15, g_61_16, g_61_17, g_61_18, g_61_19, g_61_20, g_61_21, g_61_22, g_61_23, r_62, r_63, r_64, r_65, r_66, r_67, r_68, r_69, r_70, r_71, r_72, r_73, r_74, r_75, r_76, r_77, Option.bind_some, leN, hL.1, if_pos (Nat.le_refl n)]
  obtain ⟨b, e, rfl⟩ := key
  simp only [f_X3_lineMask, o_0, Option.bind_some]
  rw [show l_X3_lineMask_5 0 (nI i) (nI j) (HH m) FU 0 0 = _ from e, Option.bind_some]
theorem m_mask {n : Nat} (hn : n38 n) {m : Mem} (hL : LM n m) (h0 : m.I 62 0 = nI n) {i j : Nat} (hi : i < n) (hj : j < n) : f_X4_lineOf 61 (nI i) (nI j) (HH m) = some (lmk n (m.I 62) i j n) := by
  have h8 := hn.2
  have ea : aI (HH m) 62 0 = some (nI n) := (r_62 m (i := 0) (by omega)).trans (by rw [h0])
  have key : ∃ b, l_X4_lineOf_11 61 (nI i) (nI j) (HH m) FU (bX i ||| bX j) (nI 0) = some b ∧ b = (bX i ||| bX j) ||| lmk n (m.I 62) i j n := by
    refine loopR (fun fuel (a : Int32 × Int32) => l_X4_lineOf_11 61 (nI i) (nI j) (HH m) fuel a.1 a.2) (fun k a => a = ((bX i ||| bX j) ||| lmk n (m.I 62) i j k, nI k)) _ n ?_ ?_ n 0 (bX i ||| bX j, nI 0) FU (by omega) (FUx (by omega)) (by
      show _ = ((bX i ||| bX j) ||| 0, nI 0)
      rw [or0])
    · rintro k a fuel hk rfl
      refine Or.inl ⟨((bX i ||| bX j) ||| lmk n (m.I 62) i j (k + 1), nI (k + 1)), ?_, rfl⟩
      simp (disch := omega) only [l_X4_lineOf_11, g_61_0, ea, Option.bind_some, leN, if_neg (show ¬ n ≤ k by omega), m_sgn hn hL hi hj hk, add_1, lmk_s]
      by_cases c : sgn n (m.I 62) i j k = 0
      · rw [if_pos c, if_pos c, orI_2]
        rfl
      · rw [if_neg c, if_neg c, Option.bind_some, or0]
    · rintro a fuel rfl
      refine ⟨_, ?_, rfl⟩
      simp (disch := omega) only [l_X4_lineOf_11, g_61_0, ea, Option.bind_some, leN, if_pos (Nat.le_refl n)]
  obtain ⟨b, e, rfl⟩ := key
  have e1 : (bX i ||| bX j) ||| lmk n (m.I 62) i j n = lmk n (m.I 62) i j n := by
    rw [← orI_2, lmk_in (x := j) (by unfold sgn; rw [if_pos (Or.inr (Or.inr rfl))]) n hj, lmk_in (x := i) (by unfold sgn; rw [if_pos (Or.inr (Or.inl rfl))]) n hi]
  rw [e1] at e
  simp only [f_X4_lineOf, o_61, Option.bind_some]
  show ((l_X4_lineOf_11 61 (nI i) (nI j) (HH m) FU (bX i ||| bX j) (nI 0)).bind fun v10 => some v10) = _
  rw [e, Option.bind_some]
theorem le28 {k : Nat} (hk : k < 2 ^ 31) : ((28 : Int32) ≤ nI k) = (28 ≤ k) := propext (nI_leI (a := 28) (by decide) hk)
/-- how often a set is listed -/
def lst (B : Nat → Int32) (x : Int32) (c : Nat) : Nat := cntN (fun l => B l = x) c
theorem lst_s (B : Nat → Int32) (x : Int32) (c : Nat) : lst B x (c + 1) = if B c = x then lst B x c + 1 else lst B x c := rfl
theorem c_listed {m : Mem} {B : Nat → Int32} {c : Nat} (hc : c ≤ 28) (hB : ∀ l, l < c → m.I 24 l = B l) (x : Int32) : f_X3_isListed 0 x (nI c) (HH m) = some (b01 (lst B x c)) := by
  have key : ∃ b, l_X3_isListed_2 0 x (nI c) (HH m) FU (nI 0) = some b ∧ ((b = .inl () ∧ lst B x c = 0) ∨ (b = .inr 1 ∧ lst B x c ≠ 0)) := by
    refine loopR (fun fuel (a : Int32) => l_X3_isListed_2 0 x (nI c) (HH m) fuel a) (fun k a => a = nI k ∧ lst B x k = 0) _ c ?_ ?_ c 0 (nI 0) FU (by omega) (FUx (by omega)) ⟨rfl, rfl⟩
    · rintro k a fuel hk ⟨rfl, hv⟩
      simp (disch := omega) only [l_X3_isListed_2, o_0, g_0_0, g_0_1, g_0_2, g_0_3, g_0_4, g_0_5, g_0_6, g_0_7, g_0_8, g_0_9, g_0_10, g_0_11, o_1, g_1_0, g_1_1, g_1_2, g_1_3, g_1_4, g_1_5, g_1_6, g_1_7, g_1_8, g_1_9, r_2, r_3, r_4, r_5, r_6, r_7, r_8, o_9, g_9_0, g_9_1, g_9_2, g_9_3, g_9_4, g_9_5, g_9_6, g_9_7, g_9_8, g_9_9, r_10, r_11, r_12, r_13, r_14, r_15, r_16, o_17, g_17_0, g_17_1, g_17_2, g_17_3, g_17_4, r_18, r_19, r_20, r_22, r_23, r_24, r_25, r_26, r_27, r_28, o_29, g_29_0, g_29_1, g_29_2, g_29_3, g_29_4, g_29_5, g_29_6, g_29_7, g_29_8, g_29_9, r_30, r_31, r_32, r_33, r_34, r_35, r_36, o_37, g_37_0, g_37_1, g_37_2, g_37_3, g_37_4, g_37_5, g_37_6, g_37_7, g_37_8, g_37_9, r_38, r_39, r_40, r_41, r_42, r_43, r_44, o_45, g_45_0, g_45_1, g_45_2, g_45_3, g_45_4, g_45_5, g_45_6, g_45_7, g_45_8, g_45_9, r_46, r_47, r_48, r_49, r_50, r_51, r_52, o_53, g_53_0, g_53_1, g_53_2, g_53_3, g_53_4, g_53_5, g_53_6, g_53_7, g_53_8, g_53_9, r_54, r_55, r_56, r_57, r_58, r_59, r_60, o_61, g_61_0, g_61_1, g_61_2, g_61_3, g_61_4, g_61_5, g_61_6, g_61_7, g_61_8, g_61_9, g_61_10, g_61_11, g_61_12, g_61_13, g_61_14, g_61_15, g_61_16, g_61_17, g_61_18, g_61_19, g_61_20, g_61_21, g_61_22, g_61_23, r_62, r_63, r_64, r_65, r_66, r_67, r_68, r_69, r_70, r_71, r_72, r_73, r_74, r_75, r_76, r_77, Option.bind_some, leN, le28, if_neg (show ¬ c ≤ k by omega), if_neg (show ¬ 28 ≤ k by omega), hB k hk, add1]
      by_cases d : B k = x
      · rw [if_pos d]
        exact Or.inr ⟨_, rfl, Or.inr ⟨rfl, fun h => (cntN_0 _ c).mp h k hk d⟩⟩
      · rw [if_neg d]
        exact Or.inl ⟨_, rfl, rfl, by rw [lst_s, if_neg d]; exact hv⟩
    · rintro a fuel ⟨rfl, hv⟩
      refine ⟨_, ?_, Or.inl ⟨rfl, hv⟩⟩
      simp (disch := omega) only [l_X3_isListed_2, leN, if_pos (Nat.le_refl c)]
  obtain ⟨b, e, h⟩ := key
  simp only [f_X3_isListed, o_0, Option.bind_some]
  rw [show l_X3_isListed_2 0 x (nI c) (HH m) FU 0 = _ from e]
  unfold b01
  rcases h with ⟨rfl, h⟩ | ⟨rfl, h⟩
  · rw [if_pos h]
    rfl
  · rw [if_neg h]
    rfl
theorem m_listed {m : Mem} {B : Nat → Int32} {c : Nat} (hc : c ≤ 28) (hB : ∀ l, l < c → m.I 74 l = B l) (x : Int32) : l_X4_lines_56 61 (nI c) x (HH m) FU 0 0 = some (b01 (lst B x c)) := by
  have key : ∃ b, l_X4_lines_56 61 (nI c) x (HH m) FU 0 (nI 0) = some b ∧ b = b01 (lst B x c) := by
    refine loopR (fun fuel (a : Int32 × Int32) => l_X4_lines_56 61 (nI c) x (HH m) fuel a.1 a.2) (fun k a => a = (b01 (lst B x k), nI k)) _ c ?_ ?_ c 0 (0, nI 0) FU (by omega) (FUx (by omega)) rfl
    · rintro k a fuel hk rfl
      refine Or.inl ⟨(b01 (lst B x (k + 1)), nI (k + 1)), ?_, rfl⟩
      simp (disch := omega) only [l_X4_lines_56, o_0, g_0_0, g_0_1, g_0_2, g_0_3, g_0_4, g_0_5, g_0_6, g_0_7, g_0_8, g_0_9, g_0_10, g_0_11, o_1, g_1_0, g_1_1, g_1_2, g_1_3, g_1_4, g_1_5, g_1_6, g_1_7, g_1_8, g_1_9, r_2, r_3, r_4, r_5, r_6, r_7, r_8, o_9, g_9_0, g_9_1, g_9_2, g_9_3, g_9_4, g_9_5, g_9_6, g_9_7, g_9_8, g_9_9, r_10, r_11, r_12, r_13, r_14, r_15, r_16, o_17, g_17_0, g_17_1, g_17_2, g_17_3, g_17_4, r_18, r_19, r_20, r_22, r_23, r_24, r_25, r_26, r_27, r_28, o_29, g_29_0, g_29_1, g_29_2, g_29_3, g_29_4, g_29_5, g_29_6, g_29_7, g_29_8, g_29_9, r_30, r_31, r_32, r_33, r_34, r_35, r_36, o_37, g_37_0, g_37_1, g_37_2, g_37_3, g_37_4, g_37_5, g_37_6, g_37_7, g_37_8, g_37_9, r_38, r_39, r_40, r_41, r_42, r_43, r_44, o_45, g_45_0, g_45_1, g_45_2, g_45_3, g_45_4, g_45_5, g_45_6, g_45_7, g_45_8, g_45_9, r_46, r_47, r_48, r_49, r_50, r_51, r_52, o_53, g_53_0, g_53_1, g_53_2, g_53_3, g_53_4, g_53_5, g_53_6, g_53_7, g_53_8, g_53_9, r_54, r_55, r_56, r_57, r_58, r_59, r_60, o_61, g_61_0, g_61_1, g_61_2, g_61_3, g_61_4, g_61_5, g_61_6, g_61_7, g_61_8, g_61_9, g_61_10, g_61_11, g_61_12, g_61_13, g_61_14, g_61_15, g_61_16, g_61_17, g_61_18, g_61_19, g_61_20, g_61_21, g_61_22, g_61_23, r_62, r_63, r_64, r_65, r_66, r_67, r_68, r_69, r_70, r_71, r_72, r_73, r_74, r_75, r_76, r_77, Option.bind_some, leN, if_neg (show ¬ c ≤ k by omega), hB k hk, add_1, lst_s]
      unfold b01
      by_cases z : lst B x k = 0
      · rw [if_pos z, if_pos rfl]
        by_cases d : B k = x
        · rw [if_pos d, if_pos d, if_neg (by omega), Option.bind_some]
        · rw [if_neg d, if_neg d, if_pos z, Option.bind_some]
      · rw [if_neg z, if_neg (show ¬ (1 : Int32) = 0 by decide), Option.bind_some]
        have : ¬ (if B k = x then lst B x k + 1 else lst B x k) = 0 := by split <;> omega
        rw [if_neg this]
    · rintro a fuel rfl
      refine ⟨_, ?_, rfl⟩
      simp (disch := omega) only [l_X4_lines_56, leN, if_pos (Nat.le_refl c)]
  obtain ⟨b, e, rfl⟩ := key
  exact e
/-- a set is listed -/
def ad (x : Int32) (a : Nat × (Nat → Int32)) : Nat × (Nat → Int32) := if lst a.2 x a.1 = 0 then (a.1 + 1, upd a.2 a.1 x) else a
def lnI (n : Nat) (s : Nat → Int32) (i : Nat) : Nat → Nat → Nat × (Nat → Int32) → Nat × (Nat → Int32)
  | 0, _, a => a
  | d + 1, j, a => lnI n s i d (j + 1) (ad (lmk n s i j n) a)
def lnO (n : Nat) (s : Nat → Int32) : Nat → Nat → Nat × (Nat → Int32) → Nat × (Nat → Int32)
  | 0, _, a => a
  | d + 1, i, a => lnO n s d (i + 1) (lnI n s i d (i + 1) a)
theorem ad_le (x : Int32) (a : Nat × (Nat → Int32)) : (ad x a).1 ≤ a.1 + 1 := by
  unfold ad
  split
  · exact Nat.le_refl _
  · omega
theorem lnI_le (n : Nat) (s : Nat → Int32) (i : Nat) : ∀ d j a, (lnI n s i d j a).1 ≤ a.1 + d := by
  intro d
  induction d with
  | zero => intro j a; exact Nat.le_refl _
  | succ d ih =>
    intro j a
    have h1 := ih (j + 1) (ad (lmk n s i j n) a)
    have h2 := ad_le (lmk n s i j n) a
    show (lnI n s i d (j + 1) (ad (lmk n s i j n) a)).1 ≤ _
    omega
theorem c_ad {m : Mem} {a : Nat × (Nat → Int32)} (x : Int32) (ha : a.1 + 1 ≤ 28) (hB : ∀ l, l < a.1 → m.I 24 l = a.2 l) : ∃ m1, (if b01 (lst a.2 x a.1) = 0 then (if (28 : Int32) ≤ nI a.1 then some (nI a.1, HH m) else (wI (HH m) 24 (nI a.1) x).bind fun h22 => some (nI (a.1 + 1), h22)) else some (nI a.1, HH m)) = some (nI (ad x a).1, HH m1) ∧ (∀ l, l < (ad x a).1 → m1.I 24 l = (ad x a).2 l) ∧ Fr (cC 24) m m1 := by
  unfold ad b01
  by_cases z : lst a.2 x a.1 = 0
  · refine ⟨m.sI 24 a.1 x, ?_, ?_, Fr_sI (Fr_rf _ m) rfl⟩
    · rw [if_pos z, if_pos rfl, if_pos z, if_neg (show ¬ (28 : Int32) ≤ nI a.1 from fun h => by rw [le28 (by omega)] at h; omega), w_24 m (by omega), Option.bind_some]
    · rw [if_pos z]
      intro l hl
      have hl : l < a.1 + 1 := hl
      show (m.sI 24 a.1 x).I 24 l = upd a.2 a.1 x l
      rw [sI_at, upd_g]
      by_cases c : l = a.1
      · rw [if_pos c, if_pos c]
      · rw [if_neg c, if_neg c]
        exact hB l (by omega)
  · refine ⟨m, ?_, ?_, Fr_rf _ m⟩
    · rw [if_neg z, if_neg (show ¬ (1 : Int32) = 0 by decide), if_neg z]
    · rw [if_neg z]
      exact hB
theorem m_ad {m : Mem} {a : Nat × (Nat → Int32)} (x : Int32) (ha : a.1 + 1 ≤ 28) (hB : ∀ l, l < a.1 → m.I 74 l = a.2 l) : ∃ m1, (if b01 (lst a.2 x a.1) = 0 then (wI (HH m) 74 (nI a.1) x).bind fun h27 => some (nI (a.1 + 1), h27) else some (nI a.1, HH m)) = some (nI (ad x a).1, HH m1) ∧ (∀ l, l < (ad x a).1 → m1.I 74 l = (ad x a).2 l) ∧ Fr (cC 74) m m1 := by
  unfold ad b01
  by_cases z : lst a.2 x a.1 = 0
  · refine ⟨m.sI 74 a.1 x, ?_, ?_, Fr_sI (Fr_rf _ m) rfl⟩
    · rw [if_pos z, if_pos rfl, if_pos z, w_74 m (by omega), Option.bind_some]
    · rw [if_pos z]
      intro l hl
      have hl : l < a.1 + 1 := hl
      show (m.sI 74 a.1 x).I 74 l = upd a.2 a.1 x l
      rw [sI_at, upd_g]
      by_cases c : l = a.1
      · rw [if_pos c, if_pos c]
      · rw [if_neg c, if_neg c]
        exact hB l (by omega)
  · refine ⟨m, ?_, ?_, Fr_rf _ m⟩
    · rw [if_neg z, if_neg (show ¬ (1 : Int32) = 0 by decide), if_neg z]
    · rw [if_neg z]
      exact hB
theorem c_lnI {n : Nat} (hn : n38 n) {s : Nat → Int32} {M : Nat → Int64} {i : Nat} (hi : i < n) : ∀ d j a (m : Mem) fuel, j + d = n → d < fuel → a.1 + d ≤ 28 → LC n m → RS 9 m s M → (∀ l, l < a.1 → m.I 24 l = a.2 l) →
    ∃ m1, l_X3_lines_47 0 (nI i) fuel (nI a.1) (nI j) (HH m) = some (nI (lnI n s i d j a).1, HH m1) ∧ (∀ l, l < (lnI n s i d j a).1 → m1.I 24 l = (lnI n s i d j a).2 l) ∧ Fr (cC 24) m m1 := by
  have h8 := hn.2
  intro d
  induction d with
  | zero =>
    intro j a m fuel hd hf ha hL hs hB
    obtain ⟨f, rfl⟩ : ∃ f, fuel = f + 1 := ⟨fuel - 1, by omega⟩
    have e : j = n := by omega
    subst e
    refine ⟨m, ?_, hB, Fr_rf _ m⟩
    simp (disch := omega) only [l_X3_lines_47, o_0, g_0_0, g_0_1, g_0_2, g_0_3, g_0_4, g_0_5, g_0_6, g_0_7, g_0_8, g_0_9, g_0_10, g_0_11, o_1, g_1_0, g_1_1, g_1_2, g_1_3, g_1_4, g_1_5, g_1_6, g_1_7, g_1_8, g_1_9, r_2, r_3, r_4, r_5, r_6, r_7, r_8, o_9, g_9_0, g_9_1, g_9_2, g_9_3, g_9_4, g_9_5, g_9_6, g_9_7, g_9_8, g_9_9, r_10, r_11, r_12, r_13, r_14, r_15, r_16, o_17, g_17_0, g_17_1, g_17_2, g_17_3, g_17_4, r_18, r_19, r_20, r_22, r_23, r_24, r_25, r_26, r_27, r_28, o_29, g_29_0, g_29_1, g_29_2, g_29_3, g_29_4, g_29_5, g_29_6, g_29_7, g_29_8, g_29_9, r_30, r_31, r_32, r_33, r_34, r_35, r_36, o_37, g_37_0, g_37_1, g_37_2, g_37_3, g_37_4, g_37_5, g_37_6, g_37_7, g_37_8, g_37_9, r_38, r_39, r_40, r_41, r_42, r_43, r_44, o_45, g_45_0, g_45_1, g_45_2, g_45_3, g_45_4, g_45_5, g_45_6, g_45_7, g_45_8, g_45_9, r_46, r_47, r_48, r_49, r_50, r_51, r_52, o_53, g_53_0, g_53_1, g_53_2, g_53_3, g_53_4, g_53_5, g_53_6, g_53_7, g_53_8, g_53_9, r_54, r_55, r_56, r_57, r_58, r_59, r_60, o_61, g_61_0, g_61_1, g_61_2, g_61_3, g_61_4, g_61_5, g_61_6, g_61_7, g_61_8, g_61_9, g_61_10, g_61_11, g_61_12, g_61_13, g_61_14, g_61_15, g_61_16, g_61_17, g_61_18, g_61_19, g_61_20, g_61_21, g_61_22, g_61_23, r_62, r_63, r_64, r_65, r_66, r_67, r_68, r_69, r_70, r_71, r_72, r_73, r_74, r_75, r_76, r_77, Option.bind_some, leN, hL.1, if_pos (Nat.le_refl j)]
    rfl
  | succ d ih =>
    intro j a m fuel hd hf ha hL hs hB
    obtain ⟨f, rfl⟩ : ∃ f, fuel = f + 1 := ⟨fuel - 1, by omega⟩
    obtain ⟨m1, e1, B1, f1⟩ := c_ad (lmk n s i j n) (by omega) hB
    have hle := ad_le (lmk n s i j n) a
    have f1x : Fr cX m m1 := Fr_w (d := cX) f1 (fun a h => by unfold cC at h; unfold cX; omega)
    have hs1 : RS 9 m1 s M := RS_of hs (fun a ha => f1.1 a (by unfold cS at ha; unfold cC; omega))
    obtain ⟨m2, e2, B2, f2⟩ := ih (j + 1) (ad (lmk n s i j n) a) m1 f (by omega) (by omega) (by omega) (LC_x hL f1x) hs1 B1
    refine ⟨m2, ?_, B2, Fr_tr f1 f2⟩
    simp (disch := omega) only [l_X3_lines_47, o_0, g_0_0, g_0_1, g_0_2, g_0_3, g_0_4, g_0_5, g_0_6, g_0_7, g_0_8, g_0_9, g_0_10, g_0_11, o_1, g_1_0, g_1_1, g_1_2, g_1_3, g_1_4, g_1_5, g_1_6, g_1_7, g_1_8, g_1_9, r_2, r_3, r_4, r_5, r_6, r_7, r_8, o_9, g_9_0, g_9_1, g_9_2, g_9_3, g_9_4, g_9_5, g_9_6, g_9_7, g_9_8, g_9_9, r_10, r_11, r_12, r_13, r_14, r_15, r_16, o_17, g_17_0, g_17_1, g_17_2, g_17_3, g_17_4, r_18, r_19, r_20, r_22, r_23, r_24, r_25, r_26, r_27, r_28, o_29, g_29_0, g_29_1, g_29_2, g_29_3, g_29_4, g_29_5, g_29_6, g_29_7, g_29_8, g_29_9, r_30, r_31, r_32, r_33, r_34, r_35, r_36, o_37, g_37_0, g_37_1, g_37_2, g_37_3, g_37_4, g_37_5, g_37_6, g_37_7, g_37_8, g_37_9, r_38, r_39, r_40, r_41, r_42, r_43, r_44, o_45, g_45_0, g_45_1, g_45_2, g_45_3, g_45_4, g_45_5, g_45_6, g_45_7, g_45_8, g_45_9, r_46, r_47, r_48, r_49, r_50, r_51, r_52, o_53, g_53_0, g_53_1, g_53_2, g_53_3, g_53_4, g_53_5, g_53_6, g_53_7, g_53_8, g_53_9, r_54, r_55, r_56, r_57, r_58, r_59, r_60, o_61, g_61_0, g_61_1, g_61_2, g_61_3, g_61_4, g_61_5, g_61_6, g_61_7, g_61_8, g_61_9, g_61_10, g_61_11, g_61_12, g_61_13, g_61_14, g_61_15, g_61_16, g_61_17, g_61_18, g_61_19, g_61_20, g_61_21, g_61_22, g_61_23, r_62, r_63, r_64, r_65, r_66, r_67, r_68, r_69, r_70, r_71, r_72, r_73, r_74, r_75, r_76, r_77, Option.bind_some, leN, hL.1, if_neg (show ¬ n ≤ j by omega), c_mask hn hL hs hi (show j < n by omega), c_listed (show a.1 ≤ 28 by omega) hB, e1, bind2, add1, e2]
    rfl
theorem m_lnI {n : Nat} (hn : n38 n) {s : Nat → Int32} (h0 : s 0 = nI n) {i : Nat} (hi : i < n) : ∀ d j a (m : Mem) fuel, j + d = n → d < fuel → a.1 + d ≤ 28 → LM n m → m.I 62 = s → (∀ l, l < a.1 → m.I 74 l = a.2 l) →
    ∃ m1, l_X4_lines_32 61 (nI i) fuel (nI a.1) (nI j) (HH m) = some (nI (lnI n s i d j a).1, HH m1) ∧ (∀ l, l < (lnI n s i d j a).1 → m1.I 74 l = (lnI n s i d j a).2 l) ∧ Fr (cC 74) m m1 := by
  have h8 := hn.2
  intro d
  induction d with
  | zero =>
    intro j a m fuel hd hf ha hL hs hB
    obtain ⟨f, rfl⟩ : ∃ f, fuel = f + 1 := ⟨fuel - 1, by omega⟩
    have ea : aI (HH m) 62 0 = some (nI n) := (r_62 m (i := 0) (by omega)).trans (by rw [hs, h0])
    have e : j = n := by omega
    subst e
    refine ⟨m, ?_, hB, Fr_rf _ m⟩
    simp (disch := omega) only [l_X4_lines_32, g_61_0, ea, Option.bind_some, leN, if_pos (Nat.le_refl j)]
    rfl
  | succ d ih =>
    intro j a m fuel hd hf ha hL hs hB
    obtain ⟨f, rfl⟩ : ∃ f, fuel = f + 1 := ⟨fuel - 1, by omega⟩
    have ea : aI (HH m) 62 0 = some (nI n) := (r_62 m (i := 0) (by omega)).trans (by rw [hs, h0])
    obtain ⟨m1, e1, B1, f1⟩ := m_ad (lmk n s i j n) (by omega) hB
    have hle := ad_le (lmk n s i j n) a
    have em := m_mask hn hL (by rw [hs]; exact h0) hi (show j < n by omega)
    rw [hs] at em
    have hs1 : m1.I 62 = s := by rw [(f1.1 62 (by unfold cC; omega)).1]; exact hs
    obtain ⟨m2, e2, B2, f2⟩ := ih (j + 1) (ad (lmk n s i j n) a) m1 f (by omega) (by omega) (by omega) (LM_f hL f1 (by unfold cC; omega) (by unfold cC; omega) (by unfold cC; omega) (by unfold cC; omega)) hs1 B1
    refine ⟨m2, ?_, B2, Fr_tr f1 f2⟩
    simp (disch := omega) only [l_X4_lines_32, o_0, g_0_0, g_0_1, g_0_2, g_0_3, g_0_4, g_0_5, g_0_6, g_0_7, g_0_8, g_0_9, g_0_10, g_0_11, o_1, g_1_0, g_1_1, g_1_2, g_1_3, g_1_4, g_1_5, g_1_6, g_1_7, g_1_8, g_1_9, r_2, r_3, r_4, r_5, r_6, r_7, r_8, o_9, g_9_0, g_9_1, g_9_2, g_9_3, g_9_4, g_9_5, g_9_6, g_9_7, g_9_8, g_9_9, r_10, r_11, r_12, r_13, r_14, r_15, r_16, o_17, g_17_0, g_17_1, g_17_2, g_17_3, g_17_4, r_18, r_19, r_20, r_22, r_23, r_24, r_25, r_26, r_27, r_28, o_29, g_29_0, g_29_1, g_29_2, g_29_3, g_29_4, g_29_5, g_29_6, g_29_7, g_29_8, g_29_9, r_30, r_31, r_32, r_33, r_34, r_35, r_36, o_37, g_37_0, g_37_1, g_37_2, g_37_3, g_37_4, g_37_5, g_37_6, g_37_7, g_37_8, g_37_9, r_38, r_39, r_40, r_41, r_42, r_43, r_44, o_45, g_45_0, g_45_1, g_45_2, g_45_3, g_45_4, g_45_5, g_45_6, g_45_7, g_45_8, g_45_9, r_46, r_47, r_48, r_49, r_50, r_51, r_52, o_53, g_53_0, g_53_1, g_53_2, g_53_3, g_53_4, g_53_5, g_53_6, g_53_7, g_53_8, g_53_9, r_54, r_55, r_56, r_57, r_58, r_59, r_60, o_61, g_61_0, g_61_1, g_61_2, g_61_3, g_61_4, g_61_5, g_61_6, g_61_7, g_61_8, g_61_9, g_61_10, g_61_11, g_61_12, g_61_13, g_61_14, g_61_15, g_61_16, g_61_17, g_61_18, g_61_19, g_61_20, g_61_21, g_61_22, g_61_23, r_62, r_63, r_64, r_65, r_66, r_67, r_68, r_69, r_70, r_71, r_72, r_73, r_74, r_75, r_76, r_77, ea, Option.bind_some, leN, if_neg (show ¬ n ≤ j by omega), em, m_listed (show a.1 ≤ 28 by omega) hB, e1, bind2, add_1, e2]
    rfl
def tri : Nat → Nat
  | 0 => 0
  | d + 1 => tri d + d
theorem c_lnO {n : Nat} (hn : n38 n) {s : Nat → Int32} {M : Nat → Int64} : ∀ d i a (m : Mem) fuel, i + d = n → d < fuel → a.1 + tri d ≤ 28 → LC n m → RS 9 m s M → (∀ l, l < a.1 → m.I 24 l = a.2 l) →
    ∃ m1, l_X3_lines_32 0 fuel (nI a.1) (nI i) (HH m) = some (nI (lnO n s d i a).1, HH m1) ∧ Fr (cC 24) m m1 := by
  have h8 := hn.2
  intro d
  induction d with
  | zero =>
    intro i a m fuel hd hf ha hL hs hB
    obtain ⟨f, rfl⟩ : ∃ f, fuel = f + 1 := ⟨fuel - 1, by omega⟩
    have e : i = n := by omega
    subst e
    refine ⟨m, ?_, Fr_rf _ m⟩
    simp (disch := omega) only [l_X3_lines_32, o_0, g_0_0, g_0_1, g_0_2, g_0_3, g_0_4, g_0_5, g_0_6, g_0_7, g_0_8, g_0_9, g_0_10, g_0_11, o_1, g_1_0, g_1_1, g_1_2, g_1_3, g_1_4, g_1_5, g_1_6, g_1_7, g_1_8, g_1_9, r_2, r_3, r_4, r_5, r_6, r_7, r_8, o_9, g_9_0, g_9_1, g_9_2, g_9_3, g_9_4, g_9_5, g_9_6, g_9_7, g_9_8, g_9_9, r_10, r_11, r_12, r_13, r_14, r_15, r_16, o_17, g_17_0, g_17_1, g_17_2, g_17_3, g_17_4, r_18, r_19, r_20, r_22, r_23, r_24, r_25, r_26, r_27, r_28, o_29, g_29_0, g_29_1, g_29_2, g_29_3, g_29_4, g_29_5, g_29_6, g_29_7, g_29_8, g_29_9, r_30, r_31, r_32, r_33, r_34, r_35, r_36, o_37, g_37_0, g_37_1, g_37_2, g_37_3, g_37_4, g_37_5, g_37_6, g_37_7, g_37_8, g_37_9, r_38, r_39, r_40, r_41, r_42, r_43, r_44, o_45, g_45_0, g_45_1, g_45_2, g_45_3, g_45_4, g_45_5, g_45_6, g_45_7, g_45_8, g_45_9, r_46, r_47, r_48, r_49, r_50, r_51, r_52, o_53, g_53_0, g_53_1, g_53_2, g_53_3, g_53_4, g_53_5, g_53_6, g_53_7, g_53_8, g_53_9, r_54, r_55, r_56, r_57, r_58, r_59, r_60, o_61, g_61_0, g_61_1, g_61_2, g_61_3, g_61_4, g_61_5, g_61_6, g_61_7, g_61_8, g_61_9, g_61_10, g_61_11, g_61_12, g_61_13, g_61_14, g_61_15, g_61_16, g_61_17, g_61_18, g_61_19, g_61_20, g_61_21, g_61_22, g_61_23, r_62, r_63, r_64, r_65, r_66, r_67, r_68, r_69, r_70, r_71, r_72, r_73, r_74, r_75, r_76, r_77, Option.bind_some, leN, hL.1, if_pos (Nat.le_refl i)]
    rfl
  | succ d ih =>
    intro i a m fuel hd hf ha hL hs hB
    obtain ⟨f, rfl⟩ : ∃ f, fuel = f + 1 := ⟨fuel - 1, by omega⟩
    have ha : a.1 + (tri d + d) ≤ 28 := ha
    obtain ⟨m1, e1, B1, f1⟩ := c_lnI hn (i := i) (by omega) d (i + 1) a m FU (by omega) (FUx (by omega)) (by omega) hL hs hB
    have hle := lnI_le n s i d (i + 1) a
    have f1x : Fr cX m m1 := Fr_w (d := cX) f1 (fun a h => by unfold cC at h; unfold cX; omega)
    have hs1 : RS 9 m1 s M := RS_of hs (fun a ha => f1.1 a (by unfold cS at ha; unfold cC; omega))
    obtain ⟨m2, e2, f2⟩ := ih (i + 1) (lnI n s i d (i + 1) a) m1 f (by omega) (by omega) (by omega) (LC_x hL f1x) hs1 B1
    refine ⟨m2, ?_, Fr_tr f1 f2⟩
    simp (disch := omega) only [l_X3_lines_32, o_0, g_0_0, g_0_1, g_0_2, g_0_3, g_0_4, g_0_5, g_0_6, g_0_7, g_0_8, g_0_9, g_0_10, g_0_11, o_1, g_1_0, g_1_1, g_1_2, g_1_3, g_1_4, g_1_5, g_1_6, g_1_7, g_1_8, g_1_9, r_2, r_3, r_4, r_5, r_6, r_7, r_8, o_9, g_9_0, g_9_1, g_9_2, g_9_3, g_9_4, g_9_5, g_9_6, g_9_7, g_9_8, g_9_9, r_10, r_11, r_12, r_13, r_14, r_15, r_16, o_17, g_17_0, g_17_1, g_17_2, g_17_3, g_17_4, r_18, r_19, r_20, r_22, r_23, r_24, r_25, r_26, r_27, r_28, o_29, g_29_0, g_29_1, g_29_2, g_29_3, g_29_4, g_29_5, g_29_6, g_29_7, g_29_8, g_29_9, r_30, r_31, r_32, r_33, r_34, r_35, r_36, o_37, g_37_0, g_37_1, g_37_2, g_37_3, g_37_4, g_37_5, g_37_6, g_37_7, g_37_8, g_37_9, r_38, r_39, r_40, r_41, r_42, r_43, r_44, o_45, g_45_0, g_45_1, g_45_2, g_45_3, g_45_4, g_45_5, g_45_6, g_45_7, g_45_8, g_45_9, r_46, r_47, r_48, r_49, r_50, r_51, r_52, o_53, g_53_0, g_53_1, g_53_2, g_53_3, g_53_4, g_53_5, g_53_6, g_53_7, g_53_8, g_53_9, r_54, r_55, r_56, r_57, r_58, r_59, r_60, o_61, g_61_0, g_61_1, g_61_2, g_61_3, g_61_4, g_61_5, g_61_6, g_61_7, g_61_8, g_61_9, g_61_10, g_61_11, g_61_12, g_61_13, g_61_14, g_61_15, g_61_16, g_61_17, g_61_18, g_61_19, g_61_20, g_61_21, g_61_22, g_61_23, r_62, r_63, r_64, r_65, r_66, r_67, r_68, r_69, r_70, r_71, r_72, r_73, r_74, r_75, r_76, r_77, Option.bind_some, leN, hL.1, if_neg (show ¬ n ≤ i by omega), add_1, e1, bind2, e2]
    rfl
theorem m_lnO {n : Nat} (hn : n38 n) {s : Nat → Int32} (h0 : s 0 = nI n) : ∀ d i a (m : Mem) fuel, i + d = n → d < fuel → a.1 + tri d ≤ 28 → LM n m → m.I 62 = s → (∀ l, l < a.1 → m.I 74 l = a.2 l) →
    ∃ m1, l_X4_lines_18 61 fuel (nI a.1) (nI i) (HH m) = some (nI (lnO n s d i a).1, HH m1) ∧ Fr (cC 74) m m1 := by
  have h8 := hn.2
  intro d
  induction d with
  | zero =>
    intro i a m fuel hd hf ha hL hs hB
    obtain ⟨f, rfl⟩ : ∃ f, fuel = f + 1 := ⟨fuel - 1, by omega⟩
    have ea : aI (HH m) 62 0 = some (nI n) := (r_62 m (i := 0) (by omega)).trans (by rw [hs, h0])
    have e : i = n := by omega
    subst e
    refine ⟨m, ?_, Fr_rf _ m⟩
    simp (disch := omega) only [l_X4_lines_18, g_61_0, ea, Option.bind_some, leN, if_pos (Nat.le_refl i)]
    rfl
  | succ d ih =>
    intro i a m fuel hd hf ha hL hs hB
    obtain ⟨f, rfl⟩ : ∃ f, fuel = f + 1 := ⟨fuel - 1, by omega⟩
    have ea : aI (HH m) 62 0 = some (nI n) := (r_62 m (i := 0) (by omega)).trans (by rw [hs, h0])
    have ha : a.1 + (tri d + d) ≤ 28 := ha
    obtain ⟨m1, e1, B1, f1⟩ := m_lnI hn h0 (i := i) (by omega) d (i + 1) a m FU (by omega) (FUx (by omega)) (by omega) hL hs hB
    have hle := lnI_le n s i d (i + 1) a
    have hs1 : m1.I 62 = s := by rw [(f1.1 62 (by unfold cC; omega)).1]; exact hs
    obtain ⟨m2, e2, f2⟩ := ih (i + 1) (lnI n s i d (i + 1) a) m1 f (by omega) (by omega) (by omega) (LM_f hL f1 (by unfold cC; omega) (by unfold cC; omega) (by unfold cC; omega) (by unfold cC; omega)) hs1 B1
    refine ⟨m2, ?_, Fr_tr f1 f2⟩
    simp (disch := omega) only [l_X4_lines_18, g_61_0, ea, Option.bind_some, leN, if_neg (show ¬ n ≤ i by omega), add_1, e1, bind2, e2]
    rfl
theorem tri_le {n : Nat} (hn : n38 n) : tri n ≤ 28 := n38_cases (P := fun n => tri n ≤ 28) (by decide) hn
theorem k_lines {m : Mem} (hi : INV m) : okW (f_L_lines 0 77) (f_X4_lines 61) m := by
  obtain ⟨n, s, M, q, P, PM, tl, tx, hC, hD, b⟩ := INV_out hi
  have hn := b.1.1
  have h8 := hn.2
  have hT := nT_le hn
  have hm : many s 0 (nT n) ≤ nT n := cntN_le _ _
  have ht := tri_le hn
  have em : ∀ m3, DD n s q P tl tx m3 → f_X4_many 61 0 (HH m3) = some (nI (many s 0 (nT n))) := fun m3 h => by
    rw [m_many m3 0 hT h.1.1, h.2.1]
  by_cases c : many s 0 (nT n) = 0
  · have cl : nI (many s 0 (nT n)) ≤ 0 := by rw [leO (by omega)]; exact c
    obtain ⟨m1, e1, f1⟩ := c_lnO hn n 0 (0, fun _ => 0) m FU (by omega) (FUx (by omega)) (by show 0 + tri n ≤ 28; omega) hC.1 hC.2.2.1 (fun l hl => absurd hl (Nat.not_lt_zero l))
    have f1x : Fr cX m m1 := Fr_w (d := cX) f1 (fun a h => by unfold cC at h; unfold cX; omega)
    refine W_ok (m1 := m1) (w := (nI (lnO n s n 0 (0, fun _ => 0)).1).toInt64) ?_ (CC_scr hC b.2.1 f1x) (upC_fr f1 (fun a h => by unfold cC at h; omega)) hD b (fun m3 hD3 => ?_)
    · have e1 : l_X3_lines_32 0 FU 0 0 (HH m) = _ := e1
      simp only [f_L_lines, f_X3_lines, o_0, g_0_0, g_0_1, g_0_2, g_0_3, g_0_4, g_0_5, g_0_6, g_0_7, g_0_8, g_0_9, g_0_10, g_0_11, o_1, g_1_0, g_1_1, g_1_2, g_1_3, g_1_4, g_1_5, g_1_6, g_1_7, g_1_8, g_1_9, r_2, r_3, r_4, r_5, r_6, r_7, r_8, o_9, g_9_0, g_9_1, g_9_2, g_9_3, g_9_4, g_9_5, g_9_6, g_9_7, g_9_8, g_9_9, r_10, r_11, r_12, r_13, r_14, r_15, r_16, o_17, g_17_0, g_17_1, g_17_2, g_17_3, g_17_4, r_18, r_19, r_20, r_22, r_23, r_24, r_25, r_26, r_27, r_28, o_29, g_29_0, g_29_1, g_29_2, g_29_3, g_29_4, g_29_5, g_29_6, g_29_7, g_29_8, g_29_9, r_30, r_31, r_32, r_33, r_34, r_35, r_36, o_37, g_37_0, g_37_1, g_37_2, g_37_3, g_37_4, g_37_5, g_37_6, g_37_7, g_37_8, g_37_9, r_38, r_39, r_40, r_41, r_42, r_43, r_44, o_45, g_45_0, g_45_1, g_45_2, g_45_3, g_45_4, g_45_5, g_45_6, g_45_7, g_45_8, g_45_9, r_46, r_47, r_48, r_49, r_50, r_51, r_52, o_53, g_53_0, g_53_1, g_53_2, g_53_3, g_53_4, g_53_5, g_53_6, g_53_7, g_53_8, g_53_9, r_54, r_55, r_56, r_57, r_58, r_59, r_60, o_61, g_61_0, g_61_1, g_61_2, g_61_3, g_61_4, g_61_5, g_61_6, g_61_7, g_61_8, g_61_9, g_61_10, g_61_11, g_61_12, g_61_13, g_61_14, g_61_15, g_61_16, g_61_17, g_61_18, g_61_19, g_61_20, g_61_21, g_61_22, g_61_23, r_62, r_63, r_64, r_65, r_66, r_67, r_68, r_69, r_70, r_71, r_72, r_73, r_74, r_75, r_76, r_77, Option.bind_some, hC.1.2.1, s9_count m hC.2.2.1 0 hT, if_pos cl, e1, bind2, bindTW, w77]
    · obtain ⟨m4, e4, f4⟩ := m_lnO hn b.1.2.1 n 0 (0, fun _ => 0) m3 FU (by omega) (FUx (by omega)) (by show 0 + tri n ≤ 28; omega) hD3.1 hD3.2.1 (fun l hl => absurd hl (Nat.not_lt_zero l))
      have D4 := DD_fr hD3 f4 (fun a h => by unfold cC at h; omega)
      obtain ⟨d1, d2, d3⟩ := fl D4 0
      refine ⟨_, _, ?_, rfl, d1, d2, upM_tr (upM_fr f4 (fun a h => by unfold cC at h; omega)) d3⟩
      have e4 : l_X4_lines_18 61 FU 0 0 (HH m3) = _ := e4
      simp only [f_X4_lines, o_61, Option.bind_some, em m3 hD3, if_pos cl, e4, bind2, m_tells]
  · have cl : ¬ nI (many s 0 (nT n)) ≤ 0 := fun h => by rw [leO (by omega)] at h; exact c h
    refine W_thr (k := 1) (by decide) ?_ hC b ⟨0, _, ?_, fl hD 1⟩
    · simp only [f_L_lines, f_X3_lines, o_0, g_0_0, g_0_1, g_0_2, g_0_3, g_0_4, g_0_5, g_0_6, g_0_7, g_0_8, g_0_9, g_0_10, g_0_11, o_1, g_1_0, g_1_1, g_1_2, g_1_3, g_1_4, g_1_5, g_1_6, g_1_7, g_1_8, g_1_9, r_2, r_3, r_4, r_5, r_6, r_7, r_8, o_9, g_9_0, g_9_1, g_9_2, g_9_3, g_9_4, g_9_5, g_9_6, g_9_7, g_9_8, g_9_9, r_10, r_11, r_12, r_13, r_14, r_15, r_16, o_17, g_17_0, g_17_1, g_17_2, g_17_3, g_17_4, r_18, r_19, r_20, r_22, r_23, r_24, r_25, r_26, r_27, r_28, o_29, g_29_0, g_29_1, g_29_2, g_29_3, g_29_4, g_29_5, g_29_6, g_29_7, g_29_8, g_29_9, r_30, r_31, r_32, r_33, r_34, r_35, r_36, o_37, g_37_0, g_37_1, g_37_2, g_37_3, g_37_4, g_37_5, g_37_6, g_37_7, g_37_8, g_37_9, r_38, r_39, r_40, r_41, r_42, r_43, r_44, o_45, g_45_0, g_45_1, g_45_2, g_45_3, g_45_4, g_45_5, g_45_6, g_45_7, g_45_8, g_45_9, r_46, r_47, r_48, r_49, r_50, r_51, r_52, o_53, g_53_0, g_53_1, g_53_2, g_53_3, g_53_4, g_53_5, g_53_6, g_53_7, g_53_8, g_53_9, r_54, r_55, r_56, r_57, r_58, r_59, r_60, o_61, g_61_0, g_61_1, g_61_2, g_61_3, g_61_4, g_61_5, g_61_6, g_61_7, g_61_8, g_61_9, g_61_10, g_61_11, g_61_12, g_61_13, g_61_14, g_61_15, g_61_16, g_61_17, g_61_18, g_61_19, g_61_20, g_61_21, g_61_22, g_61_23, r_62, r_63, r_64, r_65, r_66, r_67, r_68, r_69, r_70, r_71, r_72, r_73, r_74, r_75, r_76, r_77, Option.bind_some, hC.1.2.1, s9_count m hC.2.2.1 0 hT, if_neg cl, bindTW, if_true]
    · simp only [f_X4_lines, o_61, Option.bind_some, em m hD, if_neg cl, m_fails, bind2]
