/-! the reference looks at a relation -/
def cK (a : Nat) : Prop := a = 69 ∨ a = 70
/-- the first k of the six are laid -/
def lk (n r : Nat) (m : Mem) (k : Nat) : Prop := ∀ w, w < k → m.I 69 w = nI (fac n r w) ∧ m.I 70 w = fby n r w
theorem LM_fr {n : Nat} {m m1 : Mem} (h : LM n m) (h9 : m1.I 61 9 = m.I 61 9) (h11 : m1.I 61 11 = m.I 61 11) (h66 : m1.I 66 = m.I 66) (h67 : m1.I 67 = m.I 67) (h68 : m1.I 68 = m.I 68) : LM n m1 := by
  unfold LM
  rw [h9, h11, h66, h67, h68]
  exact h
theorem LM_f {n : Nat} {m m1 : Mem} {c : Nat → Prop} (h : LM n m) (f : Fr c m m1) (h1 : ¬ c 61) (h2 : ¬ c 66) (h3 : ¬ c 67) (h4 : ¬ c 68) : LM n m1 :=
  LM_fr h (by rw [(f.1 61 h1).1]) (by rw [(f.1 61 h1).1]) (f.1 66 h2).1 (f.1 67 h3).1 (f.1 68 h4).1
theorem m_looks {n : Nat} (hn : n38 n) {m : Mem} (hL : LM n m) {r w x y : Nat} (hr : r < nR n) (hw : w < 6) (hx : (fx w).1 = x) (hy : (fx w).2 = y) (hk : lk n r m w) : ∃ m1, f_X4_looks 61 (nI r) (nI w) (nI x) (nI y) (HH m) = some (HH m1) ∧ lk n r m1 (w + 1) ∧ Fr cK m m1 := by
  have hR := nR_le hn
  have e5 : ∀ w, w < 6 → (fx w).1 < 5 ∧ (fx w).2 < 5 := by decide
  have hx5 : x < 5 := by rw [← hx]; exact (e5 w hw).1
  have hy5 : y < 5 := by rw [← hy]; exact (e5 w hw).2
  obtain ⟨n1, n2, n3⟩ := mem_ne hn r hr w hw
  rw [hx] at n1 n3
  rw [hy] at n2 n3
  have b0 := mem_lt hn r hr 0 (by omega)
  have bx := mem_lt hn r hr x hx5
  have bY := mem_lt hn r hr y hy5
  have q0 := hL.2.2.2.2 r 0 hr (by omega)
  rw [Nat.add_zero] at q0
  have qx := hL.2.2.2.2 r x hr hx5
  have qy := hL.2.2.2.2 r y hr hy5
  have f1 : Fr cK m (m.sI 69 w (nI (num n (mem n r 0) (mem n r x) (mem n r y)))) := Fr_sI (Fr_rf _ m) (Or.inl rfl)
  have ef : num n (mem n r 0) (mem n r x) (mem n r y) = fac n r w := by
    unfold fac
    rw [hx, hy]
  have eb : par (mem n r 0) (mem n r x) (mem n r y) = fby n r w := by
    unfold fby
    rw [hx, hy]
  refine ⟨((m.sI 69 w (nI (fac n r w))).sI 70 w (fby n r w)), ?_, ?_, Fr_sI (Fr_sI (Fr_rf _ m) (Or.inl rfl)) (Or.inr rfl)⟩
  · simp (disch := omega) only [f_X4_looks, show (5 : Int32) = nI 5 from rfl, pk_mul, nI_add, o_0, g_0_0, g_0_1, g_0_2, g_0_3, g_0_4, p_0_4, g_0_5, g_0_6, g_0_7, g_0_8, g_0_9, g_0_10, g_0_11, o_1, g_1_0, p_1_0, g_1_1, p_1_1, g_1_2, p_1_2, g_1_3, g_1_4, g_1_5, g_1_6, g_1_7, g_1_8, g_1_9, r_2, w_2, r_3, w_3, r_4, w_4, r_5, w_5, r_6, w_6, r_7, w_7, r_8, w_8, o_9, g_9_0, p_9_0, g_9_1, p_9_1, g_9_2, p_9_2, g_9_3, g_9_4, g_9_5, g_9_6, g_9_7, g_9_8, g_9_9, r_10, w_10, r_11, w_11, r_12, w_12, r_13, w_13, r_14, w_14, r_15, w_15, r_16, w_16, o_17, g_17_0, g_17_1, p_17_1, g_17_2, g_17_3, g_17_4, p_17_4, r_18, w_18, r_19, w_19, r_20, w_20, r_22, w_22, r_23, w_23, r_24, w_24, r_25, w_25, r_26, w_26, r_27, w_27, r_28, w_28, o_29, g_29_0, p_29_0, g_29_1, p_29_1, g_29_2, p_29_2, g_29_3, g_29_4, g_29_5, g_29_6, g_29_7, g_29_8, g_29_9, r_30, w_30, r_31, w_31, r_32, w_32, r_33, w_33, r_34, w_34, r_35, w_35, r_36, w_36, o_37, g_37_0, p_37_0, g_37_1, p_37_1, g_37_2, p_37_2, g_37_3, g_37_4, g_37_5, g_37_6, g_37_7, g_37_8, g_37_9, r_38, w_38, r_39, w_39, r_40, w_40, r_41, w_41, r_42, w_42, r_43, w_43, r_44, w_44, o_45, g_45_0, p_45_0, g_45_1, p_45_1, g_45_2, p_45_2, g_45_3, g_45_4, g_45_5, g_45_6, g_45_7, g_45_8, g_45_9, r_46, w_46, r_47, w_47, r_48, w_48, r_49, w_49, r_50, w_50, r_51, w_51, r_52, w_52, o_53, g_53_0, p_53_0, g_53_1, p_53_1, g_53_2, p_53_2, g_53_3, g_53_4, g_53_5, g_53_6, g_53_7, g_53_8, g_53_9, r_54, w_54, r_55, w_55, r_56, w_56, r_57, w_57, r_58, w_58, r_59, w_59, r_60, w_60, o_61, g_61_0, g_61_1, g_61_2, g_61_3, p_61_3, g_61_4, g_61_5, p_61_5, g_61_6, p_61_6, g_61_7, g_61_8, g_61_9, p_61_9, g_61_10, g_61_11, p_61_11, g_61_12, p_61_12, g_61_13, g_61_14, g_61_15, g_61_16, g_61_17, g_61_18, g_61_19, g_61_20, p_61_20, g_61_21, p_61_21, g_61_22, g_61_23, p_61_23, r_62, w_62, r_63, w_63, r_64, w_64, r_65, w_65, r_66, w_66, r_67, w_67, r_68, w_68, r_69, w_69, r_70, w_70, r_71, w_71, r_72, w_72, r_73, w_73, r_74, w_74, r_75, w_75, r_76, w_76, r_77, w_77, Option.bind_some, q0, qx, qy, m_num hn hL b0 bx bY n1 n2 n3, m_par hn b0 bx bY n1 n2 n3, ef, eb]
  · intro u hu
    show upd (m.I 69) w _ u = _ ∧ upd (m.I 70) w _ u = _
    rw [upd_g, upd_g]
    by_cases c : u = w
    · rw [if_pos c, if_pos c, c]
      exact ⟨rfl, rfl⟩
    · rw [if_neg c, if_neg c]
      exact hk u (by omega)
theorem m_looksAt {n : Nat} (hn : n38 n) {m : Mem} (hL : LM n m) {r : Nat} (hr : r < nR n) : ∃ m1, f_X4_looksAt 61 (nI r) (HH m) = some (HH m1) ∧ lk n r m1 6 ∧ Fr cK m m1 := by
  have L : ∀ {m1 : Mem}, Fr cK m m1 → LM n m1 := fun f => LM_f hL f (by unfold cK; omega) (by unfold cK; omega) (by unfold cK; omega) (by unfold cK; omega)
  obtain ⟨m1, e1, k1, f1⟩ := m_looks hn hL (w := 0) hr (by omega) (x := 1) (y := 2) rfl rfl (fun w hw => absurd hw (Nat.not_lt_zero w))
  obtain ⟨m2, e2, k2, f2⟩ := m_looks hn (L f1) (w := 1) hr (by omega) (x := 3) (y := 4) rfl rfl k1
  have g2 := Fr_tr f1 f2
  obtain ⟨m3, e3, k3, f3⟩ := m_looks hn (L g2) (w := 2) hr (by omega) (x := 1) (y := 3) rfl rfl k2
  have g3 := Fr_tr g2 f3
  obtain ⟨m4, e4, k4, f4⟩ := m_looks hn (L g3) (w := 3) hr (by omega) (x := 2) (y := 4) rfl rfl k3
  have g4 := Fr_tr g3 f4
  obtain ⟨m5, e5, k5, f5⟩ := m_looks hn (L g4) (w := 4) hr (by omega) (x := 1) (y := 4) rfl rfl k4
  have g5 := Fr_tr g4 f5
  obtain ⟨m6, e6, k6, f6⟩ := m_looks hn (L g5) (w := 5) hr (by omega) (x := 2) (y := 3) rfl rfl k5
  refine ⟨m6, ?_, k6, Fr_tr g5 f6⟩
  have e1 : f_X4_looks 61 (nI r) 0 1 2 (HH m) = some (HH m1) := e1
  have e2 : f_X4_looks 61 (nI r) 1 3 4 (HH m1) = some (HH m2) := e2
  have e3 : f_X4_looks 61 (nI r) 2 1 3 (HH m2) = some (HH m3) := e3
  have e4 : f_X4_looks 61 (nI r) 3 2 4 (HH m3) = some (HH m4) := e4
  have e5 : f_X4_looks 61 (nI r) 4 1 4 (HH m4) = some (HH m5) := e5
  have e6 : f_X4_looks 61 (nI r) 5 2 3 (HH m5) = some (HH m6) := e6
  simp only [f_X4_looksAt, o_61, Option.bind_some, e1, e2, e3, e4, e5, e6]
theorem m_unk {n : Nat} (hn : n38 n) {m : Mem} {r : Nat} (hr : r < nR n) (hk : lk n r m 6) : f_X4_unknowns 61 (HH m) = some (nI (unk n r (m.I 62) 6)) := by
  have hT := nT_le hn
  have key : ∃ b, l_X4_unknowns_4 61 (HH m) FU (nI 0) (nI 0) = some b ∧ b = nI (unk n r (m.I 62) 6) := by
    refine loopR (fun fuel (a : Int32 × Int32) => l_X4_unknowns_4 61 (HH m) fuel a.1 a.2) (fun k a => a = (nI (unk n r (m.I 62) k), nI k)) _ 6 ?_ ?_ 6 0 (nI 0, nI 0) FU (by omega) (FUx (by omega)) rfl
    · rintro k a fuel h rfl
      refine Or.inl ⟨(nI (unk n r (m.I 62) (k + 1)), nI (k + 1)), ?_, rfl⟩
      have hl := fac_lt hn hr h
      simp (disch := omega) only [l_X4_unknowns_4, le6, if_neg (show ¬ 6 ≤ k by omega), o_0, g_0_0, g_0_1, g_0_2, g_0_3, g_0_4, g_0_5, g_0_6, g_0_7, g_0_8, g_0_9, g_0_10, g_0_11, o_1, g_1_0, g_1_1, g_1_2, g_1_3, g_1_4, g_1_5, g_1_6, g_1_7, g_1_8, g_1_9, r_2, r_3, r_4, r_5, r_6, r_7, r_8, o_9, g_9_0, g_9_1, g_9_2, g_9_3, g_9_4, g_9_5, g_9_6, g_9_7, g_9_8, g_9_9, r_10, r_11, r_12, r_13, r_14, r_15, r_16, o_17, g_17_0, g_17_1, g_17_2, g_17_3, g_17_4, r_18, r_19, r_20, r_22, r_23, r_24, r_25, r_26, r_27, r_28, o_29, g_29_0, g_29_1, g_29_2, g_29_3, g_29_4, g_29_5, g_29_6, g_29_7, g_29_8, g_29_9, r_30, r_31, r_32, r_33, r_34, r_35, r_36, o_37, g_37_0, g_37_1, g_37_2, g_37_3, g_37_4, g_37_5, g_37_6, g_37_7, g_37_8, g_37_9, r_38, r_39, r_40, r_41, r_42, r_43, r_44, o_45, g_45_0, g_45_1, g_45_2, g_45_3, g_45_4, g_45_5, g_45_6, g_45_7, g_45_8, g_45_9, r_46, r_47, r_48, r_49, r_50, r_51, r_52, o_53, g_53_0, g_53_1, g_53_2, g_53_3, g_53_4, g_53_5, g_53_6, g_53_7, g_53_8, g_53_9, r_54, r_55, r_56, r_57, r_58, r_59, r_60, o_61, g_61_0, g_61_1, g_61_2, g_61_3, g_61_4, g_61_5, g_61_6, g_61_7, g_61_8, g_61_9, g_61_10, g_61_11, g_61_12, g_61_13, g_61_14, g_61_15, g_61_16, g_61_17, g_61_18, g_61_19, g_61_20, g_61_21, g_61_22, g_61_23, r_62, r_63, r_64, r_65, r_66, r_67, r_68, r_69, r_70, r_71, r_72, r_73, r_74, r_75, r_76, r_77, Option.bind_some, (hk k h).1, get_0, unk_s]
      rw [show m.I 62 (3 + 4 * fac n r k) = zs n r (m.I 62) k from rfl]
      by_cases c : zs n r (m.I 62) k = -100
      · simp only [if_pos c, Option.bind_some, add_1]
      · simp only [if_neg c, Option.bind_some, add_1, add_0]
    · rintro a fuel rfl
      refine ⟨_, ?_, rfl⟩
      simp (disch := omega) only [l_X4_unknowns_4, le6, if_pos (Nat.le_refl 6)]
  obtain ⟨b, e, rfl⟩ := key
  simp only [f_X4_unknowns, o_61, Option.bind_some]
  rw [show l_X4_unknowns_4 61 (HH m) FU 0 0 = _ from e]
  rfl
/-- the six signs with a sign for the unknown ones -/
def zw (n r : Nat) (s : Nat → Int32) (v : Int32) (w : Nat) : Int32 := if zs n r s w = -100 then v else zs n r s w
def ok3 (x : Int32) : Prop := x = -1 ∨ x = 0 ∨ x = 1
theorem ok3_mul {x y : Int32} (hx : ok3 x) (hy : ok3 y) : ok3 (x * y) := by
  unfold ok3 at *
  rcases hx with rfl | rfl | rfl <;> rcases hy with rfl | rfl | rfl <;> decide
theorem par_ok (i j k : Nat) : ok3 (par i j k) := by
  unfold par ok3
  (repeat' split) <;> decide
theorem prd_ok {n r : Nat} {z : Nat → Int32} (hz : ∀ w, w < 6 → ok3 (z w)) {p : Nat} (hp : p < 3) : ok3 (prd n r z p) := by
  unfold prd
  refine ok3_mul (ok3_mul (ok3_mul (ok3_mul ?_ (par_ok _ _ _)) (par_ok _ _ _)) (hz _ (by omega))) (hz _ (by omega))
  unfold ok3
  split <;> decide
theorem m_prd {n : Nat} (hn : n38 n) {m : Mem} {r : Nat} (hr : r < nR n) (hk : lk n r m 6) (v : Int32) {p : Nat} (hp : p < 3) : l_X4_isFulfilled_32 61 v (nI p) (HH m) FU (if p = 1 then -1 else 1) ((2 : Int32) * nI p) = some (prd n r (zw n r (m.I 62) v) p) := by
  have hT := nT_le hn
  have one : ∀ fuel w c, w < 6 → w < 2 * p + 2 → l_X4_isFulfilled_32 61 v (nI p) (HH m) (fuel + 1) c (nI w) = l_X4_isFulfilled_32 61 v (nI p) (HH m) fuel (c * (fby n r w * zw n r (m.I 62) v w)) (nI (w + 1)) := by
    intro fuel w c hw h2
    have hl := fac_lt hn hr hw
    simp (disch := omega) only [l_X4_isFulfilled_32, show (2 : Int32) = nI 2 from rfl, pk_mul, nI_add, leN, if_neg (show ¬ 2 * p + 2 ≤ w by omega), o_0, g_0_0, g_0_1, g_0_2, g_0_3, g_0_4, g_0_5, g_0_6, g_0_7, g_0_8, g_0_9, g_0_10, g_0_11, o_1, g_1_0, g_1_1, g_1_2, g_1_3, g_1_4, g_1_5, g_1_6, g_1_7, g_1_8, g_1_9, r_2, r_3, r_4, r_5, r_6, r_7, r_8, o_9, g_9_0, g_9_1, g_9_2, g_9_3, g_9_4, g_9_5, g_9_6, g_9_7, g_9_8, g_9_9, r_10, r_11, r_12, r_13, r_14, r_15, r_16, o_17, g_17_0, g_17_1, g_17_2, g_17_3, g_17_4, r_18, r_19, r_20, r_22, r_23, r_24, r_25, r_26, r_27, r_28, o_29, g_29_0, g_29_1, g_29_2, g_29_3, g_29_4, g_29_5, g_29_6, g_29_7, g_29_8, g_29_9, r_30, r_31, r_32, r_33, r_34, r_35, r_36, o_37, g_37_0, g_37_1, g_37_2, g_37_3, g_37_4, g_37_5, g_37_6, g_37_7, g_37_8, g_37_9, r_38, r_39, r_40, r_41, r_42, r_43, r_44, o_45, g_45_0, g_45_1, g_45_2, g_45_3, g_45_4, g_45_5, g_45_6, g_45_7, g_45_8, g_45_9, r_46, r_47, r_48, r_49, r_50, r_51, r_52, o_53, g_53_0, g_53_1, g_53_2, g_53_3, g_53_4, g_53_5, g_53_6, g_53_7, g_53_8, g_53_9, r_54, r_55, r_56, r_57, r_58, r_59, r_60, o_61, g_61_0, g_61_1, g_61_2, g_61_3, g_61_4, g_61_5, g_61_6, g_61_7, g_61_8, g_61_9, g_61_10, g_61_11, g_61_12, g_61_13, g_61_14, g_61_15, g_61_16, g_61_17, g_61_18, g_61_19, g_61_20, g_61_21, g_61_22, g_61_23, r_62, r_63, r_64, r_65, r_66, r_67, r_68, r_69, r_70, r_71, r_72, r_73, r_74, r_75, r_76, r_77, Option.bind_some, (hk w hw).1, (hk w hw).2, get_0]
    rw [show m.I 62 (3 + 4 * fac n r w) = zs n r (m.I 62) w from rfl]
    unfold zw
    by_cases c : zs n r (m.I 62) w = -100
    · simp only [if_pos c, Option.bind_some, add_1]
    · simp only [if_neg c, Option.bind_some, add_1]
  have fin : ∀ fuel c, l_X4_isFulfilled_32 61 v (nI p) (HH m) (fuel + 1) c (nI (2 * p + 2)) = some c := by
    intro fuel c
    simp (disch := omega) only [l_X4_isFulfilled_32, show (2 : Int32) = nI 2 from rfl, pk_mul, nI_add, leN, if_pos (Nat.le_refl (2 * p + 2))]
  rw [show (2 : Int32) * nI p = nI (2 * p) from pk_mul 2 p, show FU = (3999997 + 1) + 1 + 1 from rfl, one _ _ _ (by omega) (by omega), one _ _ _ (by omega) (by omega), fin]
  unfold prd
  simp only [Int32.mul_assoc]
  congr 2
  rw [← Int32.mul_assoc (zw n r (m.I 62) v (2 * p)) (fby n r (2 * p + 1)), Int32.mul_comm (zw n r (m.I 62) v (2 * p)) (fby n r (2 * p + 1)), Int32.mul_assoc]
theorem m_ful {n : Nat} (hn : n38 n) {m : Mem} {r : Nat} (hr : r < nR n) (hk : lk n r m 6) (v : Int32) (hz : ∀ w, w < 6 → ok3 (zw n r (m.I 62) v w)) : ∃ x, f_X4_isFulfilled 61 v (HH m) = some x ∧ (ful n r (zw n r (m.I 62) v) → x = 1) ∧ (¬ ful n r (zw n r (m.I 62) v) → x = 0) := by
  have key : ∃ b, l_X4_isFulfilled_7 61 v (HH m) FU 0 0 (nI 0) = some b ∧ b = (acc n r (zw n r (m.I 62) v) 1 3, acc n r (zw n r (m.I 62) v) (-1) 3) := by
    refine loopR (fun fuel (a : Int32 × Int32 × Int32) => l_X4_isFulfilled_7 61 v (HH m) fuel a.1 a.2.1 a.2.2) (fun k a => a = (acc n r (zw n r (m.I 62) v) 1 k, acc n r (zw n r (m.I 62) v) (-1) k, nI k)) _ 3 ?_ ?_ 3 0 (0, 0, nI 0) FU (by omega) (FUx (by omega)) rfl
    · rintro k a fuel h rfl
      refine Or.inl ⟨(acc n r (zw n r (m.I 62) v) 1 (k + 1), acc n r (zw n r (m.I 62) v) (-1) (k + 1), nI (k + 1)), ?_, rfl⟩
      have e1 : (if nI k = (1 : Int32) then some (-1 : Int32) else some 1) = some (if k = 1 then -1 else 1) := by
        have q : nI k = (1 : Int32) ↔ k = 1 := nI_eq (b := 1) (by omega) (by decide)
        by_cases c : k = 1
        · rw [if_pos (q.mpr c), if_pos c]
        · rw [if_neg (fun d => c (q.mp d)), if_neg c]
      simp (disch := omega) only [l_X4_isFulfilled_7, le3, if_neg (show ¬ 3 ≤ k by omega), e1, Option.bind_some, m_prd hn hr hk v h, acc_s, add_1]
      rcases prd_ok hz h with e | e | e <;> rcases acc_01 n r (zw n r (m.I 62) v) 1 k with e2 | e2 <;> rcases acc_01 n r (zw n r (m.I 62) v) (-1) k with e3 | e3 <;> rw [e, e2, e3] <;> rfl
    · rintro a fuel rfl
      refine ⟨_, ?_, rfl⟩
      simp (disch := omega) only [l_X4_isFulfilled_7, le3, if_pos (Nat.le_refl 3)]
  obtain ⟨b, e, rfl⟩ := key
  simp only [f_X4_isFulfilled, o_61, Option.bind_some]
  rw [show l_X4_isFulfilled_7 61 v (HH m) FU 0 0 0 = _ from e]
  simp only [bind2]
  by_cases c2 : ful n r (zw n r (m.I 62) v)
  · rw [if_pos (show acc n r (zw n r (m.I 62) v) 1 3 = acc n r (zw n r (m.I 62) v) (-1) 3 from c2)]
    exact ⟨1, rfl, fun _ => rfl, fun q => absurd c2 q⟩
  · rw [if_neg (show ¬ acc n r (zw n r (m.I 62) v) 1 3 = acc n r (zw n r (m.I 62) v) (-1) 3 from c2)]
    exact ⟨0, rfl, fun q => absurd q c2, fun _ => rfl⟩
