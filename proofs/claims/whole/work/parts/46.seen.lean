/-! signs by coordinates -/
/-- all three points of a triple have coordinates -/
def placed (n : Nat) (X : Nat → Int32) (t : Nat) : Prop := X (cor n t 0) ≠ -100 ∧ X (cor n t 1) ≠ -100 ∧ X (cor n t 2) ≠ -100
def area (n : Nat) (X Y : Nat → Int32) (t : Nat) : Int32 := (X (cor n t 1) - X (cor n t 0)) * (Y (cor n t 2) - Y (cor n t 0)) - (Y (cor n t 1) - Y (cor n t 0)) * (X (cor n t 2) - X (cor n t 0))
def sg3 (v : Int32) : Int32 := if v ≤ 0 then (if 0 ≤ v then 0 else -1) else 1
theorem sg3_ok (v : Int32) : ok3 (sg3 v) := by
  unfold sg3 ok3
  (repeat' split) <;> decide
theorem sg3_cmp (v : Int32) : f_J6_compare_7cf53 v 0 = some (sg3 v) := by
  unfold f_J6_compare_7cf53 sg3
  by_cases c : 0 ≤ v
  · rw [if_pos c]
    by_cases d : v ≤ 0
    · have e : v = 0 := Int32.le_antisymm d c
      rw [if_pos d, if_pos e, if_pos c]
    · have e : ¬ v = 0 := fun e => d (by rw [e]; exact Int32.le_refl _)
      rw [if_neg d, if_neg e]
  · have d : v ≤ 0 := by
      rw [Int32.le_iff_toInt_le] at c ⊢
      omega
    rw [if_neg c, if_pos d, if_neg c]
/-- the sign of a triple by coordinates, NONE if there is none -/
def sAt (n : Nat) (X Y : Nat → Int32) (t : Nat) : Int32 := if X (cor n t 0) = -100 then -100 else if X (cor n t 1) = -100 then -100 else if X (cor n t 2) = -100 then -100 else sg3 (area n X Y t)
theorem sAt_no {n : Nat} {X Y : Nat → Int32} {t : Nat} (h : ¬ placed n X t) : sAt n X Y t = -100 := by
  unfold sAt
  by_cases c0 : X (cor n t 0) = -100
  · rw [if_pos c0]
  · by_cases c1 : X (cor n t 1) = -100
    · rw [if_neg c0, if_pos c1]
    · by_cases c2 : X (cor n t 2) = -100
      · rw [if_neg c0, if_neg c1, if_pos c2]
      · exact absurd ⟨c0, c1, c2⟩ h
theorem sAt_yes {n : Nat} {X Y : Nat → Int32} {t : Nat} (h : placed n X t) : sAt n X Y t = sg3 (area n X Y t) := by
  unfold sAt
  rw [if_neg h.1, if_neg h.2.1, if_neg h.2.2]
theorem cl_at {n : Nat} (hn : n38 n) {m : Mem} (hL : LC n m) {a c : Nat} {X Y : Nat → Int32} (hX : ∀ p, p < n → aI (HH m) a (nI p) = some (X p)) (hY : ∀ p, p < n → aI (HH m) c (nI p) = some (Y p)) {t : Nat} (ht : t < nT n) : f_X0_signAt 1 (nI t) a c (HH m) = some (sAt n X Y t) := by
  have a0 := cor_lt hn t ht 0 (by omega)
  have a1 := cor_lt hn t ht 1 (by omega)
  have a2 := cor_lt hn t ht 2 (by omega)
  have k0 : f_X0_corner 1 (nI t) 0 (HH m) = _ := cl_cor hn hL ht (w := 0) (by omega)
  have k1 : f_X0_corner 1 (nI t) 1 (HH m) = _ := cl_cor hn hL ht (w := 1) (by omega)
  have k2 : f_X0_corner 1 (nI t) 2 (HH m) = _ := cl_cor hn hL ht (w := 2) (by omega)
  unfold f_X0_signAt sAt area
  simp only [o_1, Option.bind_some, k0, k1, k2, hX _ a0, hX _ a1, hX _ a2, hY _ a0, hY _ a1, hY _ a2, sg3_cmp]
  (repeat' split) <;> rfl
/-- the reference's row's coordinates -/
def rX (s : Nat → Int32) (p : Nat) : Int32 := s (227 + 2 * p)
def rY (s : Nat → Int32) (p : Nat) : Int32 := s (227 + 2 * p + 1)
theorem m_pl (m : Mem) {p : Nat} (hp : p < 8) : f_X4_isPlaced 61 (nI p) (HH m) = some (no0 (rX (m.I 62) p)) := by
  simp (disch := omega) only [f_X4_isPlaced, show (227 : Int32) = nI 227 from rfl, show (2 : Int32) = nI 2 from rfl, pk_mul, nI_add, o_0, g_0_0, g_0_1, g_0_2, g_0_3, g_0_4, g_0_5, g_0_6, g_0_7, g_0_8, g_0_9, g_0_10, g_0_11, o_1, g_1_0, g_1_1, g_1_2, g_1_3, g_1_4, g_1_5, g_1_6, g_1_7, g_1_8, g_1_9, r_2, r_3, r_4, r_5, r_6, r_7, r_8, o_9, g_9_0, g_9_1, g_9_2, g_9_3, g_9_4, g_9_5, g_9_6, g_9_7, g_9_8, g_9_9, r_10, r_11, r_12, r_13, r_14, r_15, r_16, o_17, g_17_0, g_17_1, g_17_2, g_17_3, g_17_4, r_18, r_19, r_20, r_22, r_23, r_24, r_25, r_26, r_27, r_28, o_29, g_29_0, g_29_1, g_29_2, g_29_3, g_29_4, g_29_5, g_29_6, g_29_7, g_29_8, g_29_9, r_30, r_31, r_32, r_33, r_34, r_35, r_36, o_37, g_37_0, g_37_1, g_37_2, g_37_3, g_37_4, g_37_5, g_37_6, g_37_7, g_37_8, g_37_9, r_38, r_39, r_40, r_41, r_42, r_43, r_44, o_45, g_45_0, g_45_1, g_45_2, g_45_3, g_45_4, g_45_5, g_45_6, g_45_7, g_45_8, g_45_9, r_46, r_47, r_48, r_49, r_50, r_51, r_52, o_53, g_53_0, g_53_1, g_53_2, g_53_3, g_53_4, g_53_5, g_53_6, g_53_7, g_53_8, g_53_9, r_54, r_55, r_56, r_57, r_58, r_59, r_60, o_61, g_61_0, g_61_1, g_61_2, g_61_3, g_61_4, g_61_5, g_61_6, g_61_7, g_61_8, g_61_9, g_61_10, g_61_11, g_61_12, g_61_13, g_61_14, g_61_15, g_61_16, g_61_17, g_61_18, g_61_19, g_61_20, g_61_21, g_61_22, g_61_23, r_62, r_63, r_64, r_65, r_66, r_67, r_68, r_69, r_70, r_71, r_72, r_73, r_74, r_75, r_76, r_77, Option.bind_some, no0_e]
  rfl
theorem no0_0 {x : Int32} : no0 x = 0 ↔ x = -100 := by
  unfold no0
  split
  · exact ⟨fun _ => by assumption, fun _ => rfl⟩
  · exact ⟨fun e => absurd e (by decide), fun e => absurd e (by assumption)⟩
theorem m_seen {n : Nat} (hn : n38 n) {m : Mem} (hL : LM n m) {t : Nat} (ht : t < nT n) : ∃ x, f_X4_isSeen 61 (nI t) (HH m) = some x ∧ (placed n (rX (m.I 62)) t → x = 1) ∧ (¬ placed n (rX (m.I 62)) t → x = 0) := by
  have h8 := hn.2
  have hT := nT_le hn
  have a0 := cor_lt hn t ht 0 (by omega)
  have a1 := cor_lt hn t ht 1 (by omega)
  have a2 := cor_lt hn t ht 2 (by omega)
  have k0 := hL.2.2.1 t 0 ht (by omega)
  have k1 := hL.2.2.1 t 1 ht (by omega)
  have k2 := hL.2.2.1 t 2 ht (by omega)
  rw [Nat.add_zero] at k0
  simp (disch := omega) only [f_X4_isSeen, show (3 : Int32) = nI 3 from rfl, pk_mul, add_1, add_2, o_0, g_0_0, g_0_1, g_0_2, g_0_3, g_0_4, g_0_5, g_0_6, g_0_7, g_0_8, g_0_9, g_0_10, g_0_11, o_1, g_1_0, g_1_1, g_1_2, g_1_3, g_1_4, g_1_5, g_1_6, g_1_7, g_1_8, g_1_9, r_2, r_3, r_4, r_5, r_6, r_7, r_8, o_9, g_9_0, g_9_1, g_9_2, g_9_3, g_9_4, g_9_5, g_9_6, g_9_7, g_9_8, g_9_9, r_10, r_11, r_12, r_13, r_14, r_15, r_16, o_17, g_17_0, g_17_1, g_17_2, g_17_3, g_17_4, r_18, r_19, r_20, r_22, r_23, r_24, r_25, r_26, r_27, r_28, o_29, g_29_0, g_29_1, g_29_2, g_29_3, g_29_4, g_29_5, g_29_6, g_29_7, g_29_8, g_29_9, r_30, r_31, r_32, r_33, r_34, r_35, r_36, o_37, g_37_0, g_37_1, g_37_2, g_37_3, g_37_4, g_37_5, g_37_6, g_37_7, g_37_8, g_37_9, r_38, r_39, r_40, r_41, r_42, r_43, r_44, o_45, g_45_0, g_45_1, g_45_2, g_45_3, g_45_4, g_45_5, g_45_6, g_45_7, g_45_8, g_45_9, r_46, r_47, r_48, r_49, r_50, r_51, r_52, o_53, g_53_0, g_53_1, g_53_2, g_53_3, g_53_4, g_53_5, g_53_6, g_53_7, g_53_8, g_53_9, r_54, r_55, r_56, r_57, r_58, r_59, r_60, o_61, g_61_0, g_61_1, g_61_2, g_61_3, g_61_4, g_61_5, g_61_6, g_61_7, g_61_8, g_61_9, g_61_10, g_61_11, g_61_12, g_61_13, g_61_14, g_61_15, g_61_16, g_61_17, g_61_18, g_61_19, g_61_20, g_61_21, g_61_22, g_61_23, r_62, r_63, r_64, r_65, r_66, r_67, r_68, r_69, r_70, r_71, r_72, r_73, r_74, r_75, r_76, r_77, Option.bind_some, k0, k1, k2, m_pl m (show cor n t 0 < 8 by omega), m_pl m (show cor n t 1 < 8 by omega), m_pl m (show cor n t 2 < 8 by omega)]
  unfold placed
  by_cases c0 : rX (m.I 62) (cor n t 0) = -100
  · rw [if_pos (no0_0.mpr c0)]
    exact ⟨0, rfl, fun h => absurd c0 h.1, fun _ => rfl⟩
  · rw [if_neg (fun h => c0 (no0_0.mp h))]
    by_cases c1 : rX (m.I 62) (cor n t 1) = -100
    · rw [if_pos (no0_0.mpr c1)]
      exact ⟨0, rfl, fun h => absurd c1 h.2.1, fun _ => rfl⟩
    · rw [if_neg (fun h => c1 (no0_0.mp h))]
      by_cases c2 : rX (m.I 62) (cor n t 2) = -100
      · rw [if_pos (no0_0.mpr c2)]
        exact ⟨0, rfl, fun h => absurd c2 h.2.2, fun _ => rfl⟩
      · rw [if_neg (fun h => c2 (no0_0.mp h))]
        exact ⟨1, rfl, fun _ => rfl, fun h => absurd ⟨c0, c1, c2⟩ h⟩
theorem m_apx (m : Mem) {p u : Nat} (hp : p < 8) (hu : u < 8) : f_X4_apart 61 (nI p) (nI u) 0 (HH m) = some (rX (m.I 62) u - rX (m.I 62) p) := by
  simp (disch := omega) only [f_X4_apart, show (227 : Int32) = nI 227 from rfl, show (2 : Int32) = nI 2 from rfl, pk_mul, nI_add, add_0, o_0, g_0_0, g_0_1, g_0_2, g_0_3, g_0_4, g_0_5, g_0_6, g_0_7, g_0_8, g_0_9, g_0_10, g_0_11, o_1, g_1_0, g_1_1, g_1_2, g_1_3, g_1_4, g_1_5, g_1_6, g_1_7, g_1_8, g_1_9, r_2, r_3, r_4, r_5, r_6, r_7, r_8, o_9, g_9_0, g_9_1, g_9_2, g_9_3, g_9_4, g_9_5, g_9_6, g_9_7, g_9_8, g_9_9, r_10, r_11, r_12, r_13, r_14, r_15, r_16, o_17, g_17_0, g_17_1, g_17_2, g_17_3, g_17_4, r_18, r_19, r_20, r_22, r_23, r_24, r_25, r_26, r_27, r_28, o_29, g_29_0, g_29_1, g_29_2, g_29_3, g_29_4, g_29_5, g_29_6, g_29_7, g_29_8, g_29_9, r_30, r_31, r_32, r_33, r_34, r_35, r_36, o_37, g_37_0, g_37_1, g_37_2, g_37_3, g_37_4, g_37_5, g_37_6, g_37_7, g_37_8, g_37_9, r_38, r_39, r_40, r_41, r_42, r_43, r_44, o_45, g_45_0, g_45_1, g_45_2, g_45_3, g_45_4, g_45_5, g_45_6, g_45_7, g_45_8, g_45_9, r_46, r_47, r_48, r_49, r_50, r_51, r_52, o_53, g_53_0, g_53_1, g_53_2, g_53_3, g_53_4, g_53_5, g_53_6, g_53_7, g_53_8, g_53_9, r_54, r_55, r_56, r_57, r_58, r_59, r_60, o_61, g_61_0, g_61_1, g_61_2, g_61_3, g_61_4, g_61_5, g_61_6, g_61_7, g_61_8, g_61_9, g_61_10, g_61_11, g_61_12, g_61_13, g_61_14, g_61_15, g_61_16, g_61_17, g_61_18, g_61_19, g_61_20, g_61_21, g_61_22, g_61_23, r_62, r_63, r_64, r_65, r_66, r_67, r_68, r_69, r_70, r_71, r_72, r_73, r_74, r_75, r_76, r_77, Option.bind_some]
  rfl
theorem m_apy (m : Mem) {p u : Nat} (hp : p < 8) (hu : u < 8) : f_X4_apart 61 (nI p) (nI u) 1 (HH m) = some (rY (m.I 62) u - rY (m.I 62) p) := by
  simp (disch := omega) only [f_X4_apart, show (227 : Int32) = nI 227 from rfl, show (2 : Int32) = nI 2 from rfl, pk_mul, nI_add, add_1, o_0, g_0_0, g_0_1, g_0_2, g_0_3, g_0_4, g_0_5, g_0_6, g_0_7, g_0_8, g_0_9, g_0_10, g_0_11, o_1, g_1_0, g_1_1, g_1_2, g_1_3, g_1_4, g_1_5, g_1_6, g_1_7, g_1_8, g_1_9, r_2, r_3, r_4, r_5, r_6, r_7, r_8, o_9, g_9_0, g_9_1, g_9_2, g_9_3, g_9_4, g_9_5, g_9_6, g_9_7, g_9_8, g_9_9, r_10, r_11, r_12, r_13, r_14, r_15, r_16, o_17, g_17_0, g_17_1, g_17_2, g_17_3, g_17_4, r_18, r_19, r_20, r_22, r_23, r_24, r_25, r_26, r_27, r_28, o_29, g_29_0, g_29_1, g_29_2, g_29_3, g_29_4, g_29_5, g_29_6, g_29_7, g_29_8, g_29_9, r_30, r_31, r_32, r_33, r_34, r_35, r_36, o_37, g_37_0, g_37_1, g_37_2, g_37_3, g_37_4, g_37_5, g_37_6, g_37_7, g_37_8, g_37_9, r_38, r_39, r_40, r_41, r_42, r_43, r_44, o_45, g_45_0, g_45_1, g_45_2, g_45_3, g_45_4, g_45_5, g_45_6, g_45_7, g_45_8, g_45_9, r_46, r_47, r_48, r_49, r_50, r_51, r_52, o_53, g_53_0, g_53_1, g_53_2, g_53_3, g_53_4, g_53_5, g_53_6, g_53_7, g_53_8, g_53_9, r_54, r_55, r_56, r_57, r_58, r_59, r_60, o_61, g_61_0, g_61_1, g_61_2, g_61_3, g_61_4, g_61_5, g_61_6, g_61_7, g_61_8, g_61_9, g_61_10, g_61_11, g_61_12, g_61_13, g_61_14, g_61_15, g_61_16, g_61_17, g_61_18, g_61_19, g_61_20, g_61_21, g_61_22, g_61_23, r_62, r_63, r_64, r_65, r_66, r_67, r_68, r_69, r_70, r_71, r_72, r_73, r_74, r_75, r_76, r_77, Option.bind_some]
  rfl
theorem m_sseen {n : Nat} (hn : n38 n) {m : Mem} (hL : LM n m) {t : Nat} (ht : t < nT n) : f_X4_signSeen 61 (nI t) (HH m) = some (sg3 (area n (rX (m.I 62)) (rY (m.I 62)) t)) := by
  have h8 := hn.2
  have hT := nT_le hn
  have a0 := cor_lt hn t ht 0 (by omega)
  have a1 := cor_lt hn t ht 1 (by omega)
  have a2 := cor_lt hn t ht 2 (by omega)
  have k0 := hL.2.2.1 t 0 ht (by omega)
  have k1 := hL.2.2.1 t 1 ht (by omega)
  have k2 := hL.2.2.1 t 2 ht (by omega)
  rw [Nat.add_zero] at k0
  simp (disch := omega) only [f_X4_signSeen, show (3 : Int32) = nI 3 from rfl, pk_mul, add_1, add_2, o_0, g_0_0, g_0_1, g_0_2, g_0_3, g_0_4, g_0_5, g_0_6, g_0_7, g_0_8, g_0_9, g_0_10, g_0_11, o_1, g_1_0, g_1_1, g_1_2, g_1_3, g_1_4, g_1_5, g_1_6, g_1_7, g_1_8, g_1_9, r_2, r_3, r_4, r_5, r_6, r_7, r_8, o_9, g_9_0, g_9_1, g_9_2, g_9_3, g_9_4, g_9_5, g_9_6, g_9_7, g_9_8, g_9_9, r_10, r_11, r_12, r_13, r_14, r_15, r_16, o_17, g_17_0, g_17_1, g_17_2, g_17_3, g_17_4, r_18, r_19, r_20, r_22, r_23, r_24, r_25, r_26, r_27, r_28, o_29, g_29_0, g_29_1, g_29_2, g_29_3, g_29_4, g_29_5, g_29_6, g_29_7, g_29_8, g_29_9, r_30, r_31, r_32, r_33, r_34, r_35, r_36, o_37, g_37_0, g_37_1, g_37_2, g_37_3, g_37_4, g_37_5, g_37_6, g_37_7, g_37_8, g_37_9, r_38, r_39, r_40, r_41, r_42, r_43, r_44, o_45, g_45_0, g_45_1, g_45_2, g_45_3, g_45_4, g_45_5, g_45_6, g_45_7, g_45_8, g_45_9, r_46, r_47, r_48, r_49, r_50, r_51, r_52, o_53, g_53_0, g_53_1, g_53_2, g_53_3, g_53_4, g_53_5, g_53_6, g_53_7, g_53_8, g_53_9, r_54, r_55, r_56, r_57, r_58, r_59, r_60, o_61, g_61_0, g_61_1, g_61_2, g_61_3, g_61_4, g_61_5, g_61_6, g_61_7, g_61_8, g_61_9, g_61_10, g_61_11, g_61_12, g_61_13, g_61_14, g_61_15, g_61_16, g_61_17, g_61_18, g_61_19, g_61_20, g_61_21, g_61_22, g_61_23, r_62, r_63, r_64, r_65, r_66, r_67, r_68, r_69, r_70, r_71, r_72, r_73, r_74, r_75, r_76, r_77, Option.bind_some, k0, k1, k2, m_apx, m_apy]
  unfold sg3 area
  (repeat' split) <;> rfl
