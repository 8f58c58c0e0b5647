/-! a relation is tried: how many signs are possible -/
def fd (n r : Nat) (s : Nat → Int32) (v : Int32) (a : Nat × Int32) : Nat × Int32 := if acc n r (zw n r s v) 1 3 = acc n r (zw n r s v) (-1) 3 then (a.1 + 1, v) else a
def found (n r : Nat) (s : Nat → Int32) (x : Int32) : Nat × Int32 := fd n r s 1 (if s 1 = 0 then fd n r s 0 (fd n r s (-1) (0, x)) else fd n r s (-1) (0, x))
theorem found_le (n r : Nat) (s : Nat → Int32) (x : Int32) : (found n r s x).1 ≤ 3 := by
  unfold found fd
  (repeat' split) <;> simp
theorem found_x (n r : Nat) (s : Nat → Int32) (x y : Int32) : (found n r s x).1 = (found n r s y).1 := by
  unfold found fd
  (repeat' split) <;> rfl
theorem found_y (n r : Nat) (s : Nat → Int32) (x y : Int32) (h : (found n r s x).1 ≠ 0) : (found n r s x).2 = (found n r s y).2 := by
  unfold found fd at *
  (repeat' split) <;> first | rfl | (exfalso; simp_all)
theorem found_ok (n r : Nat) (s : Nat → Int32) (x : Int32) (h : (found n r s x).1 ≠ 0) : ok3 (found n r s x).2 := by
  unfold found fd at *
  unfold ok3
  (repeat' split) <;> first | (exact Or.inl rfl) | (exact Or.inr (Or.inl rfl)) | (exact Or.inr (Or.inr rfl)) | (exfalso; simp_all)
theorem GG_ok {n : Nat} {s : Nat → Int32} {M : Nat → Int64} (g : GG n s M) : okS (nT n) s := by
  intro t ht
  have hT := nT_le g.1
  rcases g.2.2.2 t (by omega) with h | h | ⟨r, st, h⟩
  · exact Or.inl h.2.1
  · exact Or.inr h.2.2.1
  · exact Or.inr h.2.2.1
theorem ok3_ne {x : Int32} (h : ok3 x) : x ≠ -100 := by
  rcases h with rfl | rfl | rfl <;> decide
/-! the reference -/
theorem m_found {n : Nat} (hn : n38 n) {m : Mem} {r : Nat} (hr : r < nR n) (hk : lk n r m 6) (hs : okS (nT n) (m.I 62)) : l_X4_tries_43 61 (HH m) FU 0 0 (-1) = some (nI (found n r (m.I 62) 0).1, (found n r (m.I 62) 0).2) := by
  have one : ∀ (fuel : Nat) (a : Nat × Int32) (v : Int32), ok3 v → (v = 0 → m.I 62 1 = 0) → l_X4_tries_43 61 (HH m) (fuel + 1) (nI a.1) a.2 v = l_X4_tries_43 61 (HH m) fuel (nI (fd n r (m.I 62) v a).1) (fd n r (m.I 62) v a).2 (v + 1) := by
    intro fuel a v hv h0
    obtain ⟨x, ex, t1, t0⟩ := m_ful hn hr hk v (zw_ok hn hr hs hv)
    have c2 : ¬ (2 : Int32) ≤ v := by rcases hv with rfl | rfl | rfl <;> decide
    have fin : (if x = 0 then some (nI a.1, a.2) else some (nI a.1 + 1, v)) = some (nI (fd n r (m.I 62) v a).1, (fd n r (m.I 62) v a).2) := by
      unfold fd
      by_cases d : acc n r (zw n r (m.I 62) v) 1 3 = acc n r (zw n r (m.I 62) v) (-1) 3
      · rw [t1 d, if_pos d, if_neg (by decide), add_1]
      · rw [t0 d, if_neg d, if_pos rfl]
    rw [l_X4_tries_43, if_neg c2]
    by_cases z : v = 0
    · rw [if_pos z, g_61_0, Option.bind_some, show aI (HH m) 62 1 = some (m.I 62 1) from r_62 m (i := 1) (by omega), Option.bind_some, if_pos (h0 z), ex, Option.bind_some, fin]
      rfl
    · rw [if_neg z, ex, Option.bind_some, fin]
      rfl
  have skip : ∀ (fuel : Nat) (a : Nat × Int32), m.I 62 1 ≠ 0 → l_X4_tries_43 61 (HH m) (fuel + 1) (nI a.1) a.2 0 = l_X4_tries_43 61 (HH m) fuel (nI a.1) a.2 1 := by
    intro fuel a h0
    rw [l_X4_tries_43, if_neg (show ¬ (2 : Int32) ≤ 0 by decide), if_pos rfl, g_61_0, Option.bind_some, show aI (HH m) 62 1 = some (m.I 62 1) from r_62 m (i := 1) (by omega), Option.bind_some, if_neg h0]
    rfl
  have fin : ∀ (fuel : Nat) (a : Nat × Int32), l_X4_tries_43 61 (HH m) (fuel + 1) (nI a.1) a.2 2 = some (nI a.1, a.2) := by
    intro fuel a
    rw [l_X4_tries_43, if_pos (show (2 : Int32) ≤ 2 by decide)]
  unfold found
  rw [show FU = (((3999996 + 1) + 1) + 1) + 1 from rfl, show l_X4_tries_43 61 (HH m) ((((3999996 + 1) + 1) + 1) + 1) 0 0 (-1) = _ from one _ (0, 0) (-1) (Or.inl rfl) (fun h => absurd h (by decide))]
  rw [show (-1 : Int32) + 1 = 0 by decide]
  by_cases c : m.I 62 1 = 0
  · rw [if_pos c, one _ _ 0 (Or.inr (Or.inl rfl)) (fun _ => c), show (0 : Int32) + 1 = 1 by decide, one _ _ 1 (Or.inr (Or.inr rfl)) (fun h => absurd h (by decide)), show (1 : Int32) + 1 = 2 by decide, fin]
  · rw [if_neg c, skip _ _ c, one _ _ 1 (Or.inr (Or.inr rfl)) (fun h => absurd h (by decide)), show (1 : Int32) + 1 = 2 by decide, fin]
theorem cntN_set (p q : Nat → Prop) [DecidablePred p] [DecidablePred q] {t : Nat} (hp : ¬ p t) (hq : q t) : ∀ n, t < n → (∀ k, k ≠ t → (p k ↔ q k)) → cntN q n = cntN p n + 1 := by
  intro n
  induction n with
  | zero => intro h; omega
  | succ n ih =>
    intro h hk
    show (if q n then cntN q n + 1 else cntN q n) = (if p n then cntN p n + 1 else cntN p n) + 1
    by_cases c : t = n
    · subst c
      rw [if_pos hq, if_neg hp, cntN_cg q p t (fun k h2 => (hk k (by omega)).symm)]
    · rw [ih (by omega) hk]
      by_cases d : p n
      · rw [if_pos d, if_pos ((hk n (by omega)).mp d)]
      · rw [if_neg d, if_neg (fun e => d ((hk n (by omega)).mpr e))]
/-- a row whose kinds differ in one derived triple more -/
theorem many_one {s s' : Nat → Int32} {t T : Nat} (ht : t < T) (h0 : s (3 + 4 * t + 1) ≠ 2) (h2 : s' (3 + 4 * t + 1) = 2) (h : ∀ u, u ≠ t → s' (3 + 4 * u + 1) = s (3 + 4 * u + 1)) : many s' 2 T = many s 2 T + 1 :=
  cntN_set _ _ h0 h2 T ht (fun k hk => by rw [h k hk])
def cR (a : Nat) : Prop := a = 62
theorem lk_fr {n r : Nat} {m m1 : Mem} {k : Nat} (h : lk n r m k) (e1 : m1.I 69 = m.I 69) (e2 : m1.I 70 = m.I 70) : lk n r m1 k := by
  unfold lk
  rw [e1, e2]
  exact h
/-- the triple that is derived is written -/
theorem m_puts {n : Nat} (hn : n38 n) {m : Mem} (hL : LM n m) {r w : Nat} (hr : r < nR n) (hk : lk n r m 6) (hw : w < 6) (hz : zs n r (m.I 62) w = -100) (hu : unk n r (m.I 62) 6 = 1) (h0 : m.I 62 (3 + 4 * fac n r w + 1) ≠ 2) {v : Int32} (hv : v ≠ -100) :
    l_X4_tries_103 61 (nI r) v FU 0 (HH m) = some (HH (m.rI 62 (drv (fac n r w) v (nI r) (nI (many (m.I 62) 2 (nT n) + 1)) (m.I 62)))) := by
  have h8 := nT_le hn
  have hl : ∀ {u}, u < 6 → fac n r u < nT n := fun h => fac_lt hn hr h
  have hlw := hl hw
  have uq : ∀ u, u < 6 → u ≠ w → zs n r (m.I 62) u ≠ -100 := fun u hu6 hne hz2 => hne (cntN_1 _ 6 hu u w hu6 hw hz2 hz)
  have ht2 : ∀ T, T = nT n → many (upd (upd (upd (m.I 62) (3 + 4 * fac n r w) v) (3 + 4 * fac n r w + 1) 2) (3 + 4 * fac n r w + 2) (nI r)) 2 T = many (m.I 62) 2 T + 1 := fun T e => by
    refine many_one (t := fac n r w) (by omega) h0 ?_ (fun u hu => ?_)
    · rw [upd_g, if_neg (by omega), upd_g, if_pos rfl]
    · rw [upd_g, if_neg (by omega), upd_g, if_neg (by omega), upd_g, if_neg (by omega)]
  have key : ∃ b, l_X4_tries_103 61 (nI r) v FU (nI 0) (HH m) = some b ∧ b = HH (m.rI 62 (drv (fac n r w) v (nI r) (nI (many (m.I 62) 2 (nT n) + 1)) (m.I 62))) := by
    refine loopR (fun fuel (a : Int32 × Hp) => l_X4_tries_103 61 (nI r) v fuel a.1 a.2) (fun k a => a = (nI k, HH (if k ≤ w then m else m.rI 62 (drv (fac n r w) v (nI r) (nI (many (m.I 62) 2 (nT n) + 1)) (m.I 62))))) _ 6 ?_ ?_ 6 0 (nI 0, HH m) FU (by omega) (FUx (by omega)) (by rw [if_pos (Nat.zero_le w)])
    · rintro k a fuel h6 rfl
      refine Or.inl ⟨_, ?_, rfl⟩
      have hlk := hl h6
      by_cases c : k ≤ w
      · rw [if_pos c]
        by_cases d : k = w
        · subst d
          rw [if_neg (show ¬ k + 1 ≤ k by omega)]
          have e9 : ∀ f, (m.rI 62 f).I 61 9 = nI (nT n) := fun f => hL.1
          simp (disch := omega) only [l_X4_tries_103, le6, if_neg (show ¬ 6 ≤ k by omega), o_0, g_0_0, g_0_1, g_0_2, g_0_3, g_0_4, g_0_5, g_0_6, g_0_7, g_0_8, g_0_9, g_0_10, g_0_11, o_1, g_1_0, g_1_1, g_1_2, g_1_3, g_1_4, g_1_5, g_1_6, g_1_7, g_1_8, g_1_9, r_2, r_3, r_4, r_5, r_6, r_7, r_8, o_9, g_9_0, g_9_1, g_9_2, g_9_3, g_9_4, g_9_5, g_9_6, g_9_7, g_9_8, g_9_9, r_10, r_11, r_12, r_13, r_14, r_15, r_16, o_17, g_17_0, g_17_1, g_17_2, g_17_3, g_17_4, r_18, r_19, r_20, r_22, r_23, r_24, r_25, r_26, r_27, r_28, o_29, g_29_0, g_29_1, g_29_2, g_29_3, g_29_4, g_29_5, g_29_6, g_29_7, g_29_8, g_29_9, r_30, r_31, r_32, r_33, r_34, r_35, r_36, o_37, g_37_0, g_37_1, g_37_2, g_37_3, g_37_4, g_37_5, g_37_6, g_37_7, g_37_8, g_37_9, r_38, r_39, r_40, r_41, r_42, r_43, r_44, o_45, g_45_0, g_45_1, g_45_2, g_45_3, g_45_4, g_45_5, g_45_6, g_45_7, g_45_8, g_45_9, r_46, r_47, r_48, r_49, r_50, r_51, r_52, o_53, g_53_0, g_53_1, g_53_2, g_53_3, g_53_4, g_53_5, g_53_6, g_53_7, g_53_8, g_53_9, r_54, r_55, r_56, r_57, r_58, r_59, r_60, o_61, g_61_0, g_61_1, g_61_2, g_61_3, g_61_4, g_61_5, g_61_6, g_61_7, g_61_8, g_61_9, g_61_10, g_61_11, g_61_12, g_61_13, g_61_14, g_61_15, g_61_16, g_61_17, g_61_18, g_61_19, g_61_20, g_61_21, g_61_22, g_61_23, r_62, r_63, r_64, r_65, r_66, r_67, r_68, r_69, r_70, r_71, r_72, r_73, r_74, r_75, r_76, r_77, Option.bind_some, (hk k h6).1, get_0]
          rw [show m.I 62 (3 + 4 * fac n r k) = -100 from hz, if_pos rfl]
          simp (disch := omega) only [put_0, put_1, put_2, sI_r, rI_I, rI_rI, Option.bind_some]
          rw [m_many _ 2 h8 (e9 _)]
          simp (disch := omega) only [put_3, sI_r, rI_I, rI_rI, Option.bind_some, ht2 _ rfl, add_1]
          rfl
        · rw [if_pos (show k + 1 ≤ w by omega)]
          simp (disch := omega) only [l_X4_tries_103, le6, if_neg (show ¬ 6 ≤ k by omega), o_0, g_0_0, g_0_1, g_0_2, g_0_3, g_0_4, g_0_5, g_0_6, g_0_7, g_0_8, g_0_9, g_0_10, g_0_11, o_1, g_1_0, g_1_1, g_1_2, g_1_3, g_1_4, g_1_5, g_1_6, g_1_7, g_1_8, g_1_9, r_2, r_3, r_4, r_5, r_6, r_7, r_8, o_9, g_9_0, g_9_1, g_9_2, g_9_3, g_9_4, g_9_5, g_9_6, g_9_7, g_9_8, g_9_9, r_10, r_11, r_12, r_13, r_14, r_15, r_16, o_17, g_17_0, g_17_1, g_17_2, g_17_3, g_17_4, r_18, r_19, r_20, r_22, r_23, r_24, r_25, r_26, r_27, r_28, o_29, g_29_0, g_29_1, g_29_2, g_29_3, g_29_4, g_29_5, g_29_6, g_29_7, g_29_8, g_29_9, r_30, r_31, r_32, r_33, r_34, r_35, r_36, o_37, g_37_0, g_37_1, g_37_2, g_37_3, g_37_4, g_37_5, g_37_6, g_37_7, g_37_8, g_37_9, r_38, r_39, r_40, r_41, r_42, r_43, r_44, o_45, g_45_0, g_45_1, g_45_2, g_45_3, g_45_4, g_45_5, g_45_6, g_45_7, g_45_8, g_45_9, r_46, r_47, r_48, r_49, r_50, r_51, r_52, o_53, g_53_0, g_53_1, g_53_2, g_53_3, g_53_4, g_53_5, g_53_6, g_53_7, g_53_8, g_53_9, r_54, r_55, r_56, r_57, r_58, r_59, r_60, o_61, g_61_0, g_61_1, g_61_2, g_61_3, g_61_4, g_61_5, g_61_6, g_61_7, g_61_8, g_61_9, g_61_10, g_61_11, g_61_12, g_61_13, g_61_14, g_61_15, g_61_16, g_61_17, g_61_18, g_61_19, g_61_20, g_61_21, g_61_22, g_61_23, r_62, r_63, r_64, r_65, r_66, r_67, r_68, r_69, r_70, r_71, r_72, r_73, r_74, r_75, r_76, r_77, Option.bind_some, (hk k h6).1, get_0]
          rw [if_neg (show ¬ m.I 62 (3 + 4 * fac n r k) = -100 from uq k h6 d), Option.bind_some, add_1]
      · rw [if_neg c, if_neg (show ¬ k + 1 ≤ w by omega)]
        have hk2 : lk n r (m.rI 62 (drv (fac n r w) v (nI r) (nI (many (m.I 62) 2 (nT n) + 1)) (m.I 62))) 6 := lk_fr hk rfl rfl
        simp (disch := omega) only [l_X4_tries_103, le6, if_neg (show ¬ 6 ≤ k by omega), o_0, g_0_0, g_0_1, g_0_2, g_0_3, g_0_4, g_0_5, g_0_6, g_0_7, g_0_8, g_0_9, g_0_10, g_0_11, o_1, g_1_0, g_1_1, g_1_2, g_1_3, g_1_4, g_1_5, g_1_6, g_1_7, g_1_8, g_1_9, r_2, r_3, r_4, r_5, r_6, r_7, r_8, o_9, g_9_0, g_9_1, g_9_2, g_9_3, g_9_4, g_9_5, g_9_6, g_9_7, g_9_8, g_9_9, r_10, r_11, r_12, r_13, r_14, r_15, r_16, o_17, g_17_0, g_17_1, g_17_2, g_17_3, g_17_4, r_18, r_19, r_20, r_22, r_23, r_24, r_25, r_26, r_27, r_28, o_29, g_29_0, g_29_1, g_29_2, g_29_3, g_29_4, g_29_5, g_29_6, g_29_7, g_29_8, g_29_9, r_30, r_31, r_32, r_33, r_34, r_35, r_36, o_37, g_37_0, g_37_1, g_37_2, g_37_3, g_37_4, g_37_5, g_37_6, g_37_7, g_37_8, g_37_9, r_38, r_39, r_40, r_41, r_42, r_43, r_44, o_45, g_45_0, g_45_1, g_45_2, g_45_3, g_45_4, g_45_5, g_45_6, g_45_7, g_45_8, g_45_9, r_46, r_47, r_48, r_49, r_50, r_51, r_52, o_53, g_53_0, g_53_1, g_53_2, g_53_3, g_53_4, g_53_5, g_53_6, g_53_7, g_53_8, g_53_9, r_54, r_55, r_56, r_57, r_58, r_59, r_60, o_61, g_61_0, g_61_1, g_61_2, g_61_3, g_61_4, g_61_5, g_61_6, g_61_7, g_61_8, g_61_9, g_61_10, g_61_11, g_61_12, g_61_13, g_61_14, g_61_15, g_61_16, g_61_17, g_61_18, g_61_19, g_61_20, g_61_21, g_61_22, g_61_23, r_62, r_63, r_64, r_65, r_66, r_67, r_68, r_69, r_70, r_71, r_72, r_73, r_74, r_75, r_76, r_77, Option.bind_some, (hk2 k h6).1, get_0, rI_I, drv_g]
        have c2 : ¬ (if 3 + 4 * fac n r k = 3 + 4 * fac n r w then v else if 3 + 4 * fac n r k = 3 + 4 * fac n r w + 1 then 2 else if 3 + 4 * fac n r k = 3 + 4 * fac n r w + 2 then nI r else if 3 + 4 * fac n r k = 3 + 4 * fac n r w + 3 then nI (many (m.I 62) 2 (nT n) + 1) else m.I 62 (3 + 4 * fac n r k)) = -100 := by
          by_cases d : fac n r k = fac n r w
          · rw [if_pos (by omega)]
            exact hv
          · rw [if_neg (by omega), if_neg (by omega), if_neg (by omega), if_neg (by omega)]
            exact uq k h6 (by omega)
        rw [if_neg c2, Option.bind_some, add_1]
    · rintro a fuel rfl
      refine ⟨_, ?_, rfl⟩
      rw [if_neg (by omega)]
      simp (disch := omega) only [l_X4_tries_103, le6, if_pos (Nat.le_refl 6)]
  obtain ⟨b, e, rfl⟩ := key
  exact e
/-- which of the six is unknown -/
def wu (n r : Nat) (s : Nat → Int32) : Nat := if zs n r s 0 = -100 then 0 else if zs n r s 1 = -100 then 1 else if zs n r s 2 = -100 then 2 else if zs n r s 3 = -100 then 3 else if zs n r s 4 = -100 then 4 else 5
theorem wu_ok {n r : Nat} {s : Nat → Int32} (h : unk n r s 6 = 1) : wu n r s < 6 ∧ zs n r s (wu n r s) = -100 := by
  have h5 : ∀ w, w < 6 → zs n r s w = -100 → wu n r s < 6 ∧ zs n r s (wu n r s) = -100 := by
    intro w hw hz
    unfold wu
    have h6 : w = 0 ∨ w = 1 ∨ w = 2 ∨ w = 3 ∨ w = 4 ∨ w = 5 := by omega
    (repeat' split) <;> first
      | exact ⟨by omega, by assumption⟩
      | (rcases h6 with rfl | rfl | rfl | rfl | rfl | rfl <;> first | exact ⟨by omega, hz⟩ | exact absurd hz (by assumption))
  rcases Nat.eq_zero_or_pos (unk n r s 6) with e | e
  · omega
  · have : ¬ ∀ k, k < 6 → ¬ zs n r s k = -100 := fun q => by
      have := (cntN_0 (fun w => zs n r s w = -100) 6).mpr q
      unfold unk at h
      omega
    refine Classical.byContradiction (fun q => this (fun k hk hz => q (h5 k hk hz)))
/-- what trying a relation says, and the row after it -/
def tld (n r : Nat) (s : Nat → Int32) : Int32 := if unk n r s 6 = 0 then (if acc n r (zs n r s) 1 3 = acc n r (zs n r s) (-1) 3 then 0 else -1) else if unk n r s 6 = 1 then (if (found n r s 0).1 = 1 then 1 else if (found n r s 0).1 = 0 then -1 else 0) else 0
def trow (n r : Nat) (s : Nat → Int32) : Nat → Int32 := if tld n r s = 1 then drv (fac n r (wu n r s)) (found n r s 0).2 (nI r) (nI (many s 2 (nT n) + 1)) s else s
theorem m_tries {n : Nat} (hn : n38 n) {m : Mem} (hL : LM n m) {M : Nat → Int64} (hg : GG n (m.I 62) M) {r : Nat} (hr : r < nR n) : ∃ m1, f_X4_tries 61 (nI r) (HH m) = some (tld n r (m.I 62), HH (m1.rI 62 (trow n r (m.I 62)))) ∧ Fr cK m m1 := by
  have h8 := nT_le hn
  obtain ⟨m1, e1, k1, f1⟩ := m_looksAt hn hL hr
  have e62 : m1.I 62 = m.I 62 := (f1.1 62 (by unfold cK; omega)).1
  have hL1 : LM n m1 := LM_f hL f1 (by unfold cK; omega) (by unfold cK; omega) (by unfold cK; omega) (by unfold cK; omega)
  have ok1 : okS (nT n) (m1.I 62) := by rw [e62]; exact GG_ok hg
  have hu6 := cntN_le (fun w => zs n r (m.I 62) w = -100) 6
  have hub : unk n r (m.I 62) 6 ≤ 6 := hu6
  have z0 : (nI (unk n r (m.I 62) 6) = 0) ↔ unk n r (m.I 62) 6 = 0 := nI_eq (b := 0) (by omega) (by decide)
  have z1 : (nI (unk n r (m.I 62) 6) ≤ 1) ↔ unk n r (m.I 62) 6 ≤ 1 := nI_leI (b := 1) (by omega) (by decide)
  have same : HH (m1.rI 62 (m.I 62)) = HH m1 := by rw [← e62, rI_id]
  refine ⟨m1, ?_, f1⟩
  unfold f_X4_tries
  rw [o_61, Option.bind_some, e1, Option.bind_some, m_unk hn hr k1, Option.bind_some, e62]
  by_cases c0 : unk n r (m.I 62) 6 = 0
  · rw [if_pos (z0.mpr c0)]
    obtain ⟨x, ex, t1, t0⟩ := m_ful hn hr k1 0 (zw_ok hn hr ok1 (Or.inr (Or.inl rfl)))
    rw [e62] at t1 t0
    have cg := ful_cg (n := n) (r := r) (zw_0 c0 0)
    rw [ex, Option.bind_some]
    by_cases d : acc n r (zs n r (m.I 62)) 1 3 = acc n r (zs n r (m.I 62)) (-1) 3
    · have et : tld n r (m.I 62) = 0 := by unfold tld; rw [if_pos c0, if_pos d]
      unfold trow
      rw [et, if_neg (show ¬ (0 : Int32) = 1 by decide), same, t1 (cg.mpr d), if_neg (by decide)]
    · have et : tld n r (m.I 62) = -1 := by unfold tld; rw [if_pos c0, if_neg d]
      unfold trow
      rw [et, if_neg (show ¬ (-1 : Int32) = 1 by decide), same, t0 (fun q => d (cg.mp q)), if_pos rfl]
  · rw [if_neg (fun q => c0 (z0.mp q))]
    by_cases c1 : unk n r (m.I 62) 6 = 1
    · rw [if_pos (z1.mpr (by omega)), show l_X4_tries_43 61 (HH m1) FU 0 0 (-1) = _ from m_found hn hr k1 ok1, e62]
      have fl := found_le n r (m.I 62) 0
      have q1 : nI (found n r (m.I 62) 0).1 = 1 ↔ (found n r (m.I 62) 0).1 = 1 := nI_eq (b := 1) (by omega) (by decide)
      have q0 : nI (found n r (m.I 62) 0).1 = 0 ↔ (found n r (m.I 62) 0).1 = 0 := nI_eq (b := 0) (by omega) (by decide)
      simp only [bind2]
      by_cases d1 : (found n r (m.I 62) 0).1 = 1
      · have et : tld n r (m.I 62) = 1 := by unfold tld; rw [if_neg c0, if_pos c1, if_pos d1]
        obtain ⟨hw, hz⟩ := wu_ok c1
        have hk0 : m.I 62 (3 + 4 * fac n r (wu n r (m.I 62)) + 1) ≠ 2 := by
          have hl := fac_lt hn hr hw
          rcases hg.2.2.2 _ (show fac n r (wu n r (m.I 62)) < 56 by omega) with g | g | ⟨r2, st, g⟩
          · rw [g.1]; decide
          · exact absurd hz (ok3_ne g.2.2.1)
          · exact absurd hz (ok3_ne g.2.2.1)
        unfold trow
        rw [if_pos (q1.mpr d1), if_pos et, et]
        have := m_puts hn hL1 hr k1 hw (by rw [e62]; exact hz) (by rw [e62]; exact c1) (by rw [e62]; exact hk0) (ok3_ne (found_ok n r (m.I 62) 0 (by omega)))
        rw [e62] at this
        rw [this, Option.bind_some]
      · rw [if_neg (fun q => d1 (q1.mp q))]
        by_cases d0 : (found n r (m.I 62) 0).1 = 0
        · have et : tld n r (m.I 62) = -1 := by unfold tld; rw [if_neg c0, if_pos c1, if_neg d1, if_pos d0]
          unfold trow
          rw [if_pos (q0.mpr d0), et, if_neg (show ¬ (-1 : Int32) = 1 by decide), same]
        · have et : tld n r (m.I 62) = 0 := by unfold tld; rw [if_neg c0, if_pos c1, if_neg d1, if_neg d0]
          unfold trow
          rw [if_neg (fun q => d0 (q0.mp q)), et, if_neg (show ¬ (0 : Int32) = 1 by decide), same]
    · have et : tld n r (m.I 62) = 0 := by unfold tld; rw [if_neg c0, if_neg c1]
      unfold trow
      rw [if_neg (fun q => absurd (z1.mp q) (by omega)), et, if_neg (show ¬ (0 : Int32) = 1 by decide), same]
