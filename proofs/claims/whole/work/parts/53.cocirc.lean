/-! cocircuits, extreme points -/
def dg (z : Int32) : Nat := if z = 1 then 1 else if z = -1 then 2 else 0
def sumN (z : Nat → Int32) : Nat → Nat
  | 0 => 0
  | k + 1 => sumN z k + dg (z k) * 4 ^ k
theorem sumN_s (z : Nat → Int32) (k : Nat) : sumN z (k + 1) = sumN z k + dg (z k) * 4 ^ k := rfl
def horn (z : Nat → Int32) : Nat → Nat → Nat
  | 0, v => v
  | d + 1, v => horn z d (4 * v + dg (z d))
theorem horn_e (z : Nat → Int32) : ∀ d v, horn z d v = v * 4 ^ d + sumN z d := by
  intro d
  induction d with
  | zero => intro v; show v = v * 1 + 0; omega
  | succ d ih =>
    intro v
    show horn z d (4 * v + dg (z d)) = _
    rw [ih, sumN_s, Nat.add_mul, Nat.pow_succ]
    have : 4 * v * 4 ^ d = v * (4 ^ d * 4) := by rw [Nat.mul_comm 4 v, Nat.mul_assoc, Nat.mul_comm 4 (4 ^ d)]
    omega
theorem c_circ {n : Nat} (hn : n38 n) {m : Mem} (hL : LC n m) {s : Nat → Int32} {M : Nat → Int64} (hs : RS 9 m s M) {i j : Nat} (hi : i < n) (hj : j < n) : ∃ b, l_X3_cocircuit_33 0 (nI i) (nI j) (HH m) FU 0 1 0 = some b ∧ ((b = .inl (nI (sumN (sgn n s i j) n)) ∧ ∀ x, x < n → sgn n s i j x ≠ -100) ∨ (b = .inr (.inl 2) ∧ ∃ x, x < n ∧ sgn n s i j x = -100)) := by
  have h8 := hn.2
  refine loopR (fun fuel (a : Int32 × Int32 × Int32) => l_X3_cocircuit_33 0 (nI i) (nI j) (HH m) fuel a.1 a.2.1 a.2.2) (fun k a => a = (nI (sumN (sgn n s i j) k), nI (4 ^ k), nI k) ∧ ∀ x, x < k → sgn n s i j x ≠ -100) _ n ?_ ?_ n 0 (0, 1, nI 0) FU (by omega) (FUx (by omega)) ⟨rfl, fun x hx => absurd hx (Nat.not_lt_zero x)⟩
  · rintro k a fuel hk ⟨rfl, hv⟩
    simp (disch := omega) only [l_X3_cocircuit_33, o_0, g_0_0, g_0_1, g_0_2, g_0_3, g_0_4, g_0_5, g_0_6, g_0_7, g_0_8, g_0_9, g_0_10, g_0_11, o_1, g_1_0, g_1_1, g_1_2, g_1_3, g_1_4, g_1_5, g_1_6, g_1_7, g_1_8, g_1_9, r_2, r_3, r_4, r_5, r_6, r_7, r_8, o_9, g_9_0, g_9_1, g_9_2, g_9_3, g_9_4, g_9_5, g_9_6, g_9_7, g_9_8, g_9_9, r_10, r_11, r_12, r_13, r_14, r_15, r_16, o_17, g_17_0, g_17_1, g_17_2, g_17_3, g_17_4, r_18, r_19, r_20, r_22, r_23, r_24, r_25, r_26, r_27, r_28, o_29, g_29_0, g_29_1, g_29_2, g_29_3, g_29_4, g_29_5, g_29_6, g_29_7, g_29_8, g_29_9, r_30, r_31, r_32, r_33, r_34, r_35, r_36, o_37, g_37_0, g_37_1, g_37_2, g_37_3, g_37_4, g_37_5, g_37_6, g_37_7, g_37_8, g_37_9, r_38, r_39, r_40, r_41, r_42, r_43, r_44, o_45, g_45_0, g_45_1, g_45_2, g_45_3, g_45_4, g_45_5, g_45_6, g_45_7, g_45_8, g_45_9, r_46, r_47, r_48, r_49, r_50, r_51, r_52, o_53, g_53_0, g_53_1, g_53_2, g_53_3, g_53_4, g_53_5, g_53_6, g_53_7, g_53_8, g_53_9, r_54, r_55, r_56, r_57, r_58, r_59, r_60, o_61, g_61_0, g_61_1, g_61_2, g_61_3, g_61_4, g_61_5, g_61_6, g_61_7, g_61_8, g_61_9, g_61_10, g_61_11, g_61_12, g_61_13, g_61_14, g_61_15, g_61_16, g_61_17, g_61_18, g_61_19, g_61_20, g_61_21, g_61_22, g_61_23, r_62, r_63, r_64, r_65, r_66, r_67, r_68, r_69, r_70, r_71, r_72, r_73, r_74, r_75, r_76, r_77, Option.bind_some, leN, hL.1, if_neg (show ¬ n ≤ k by omega), cl_sgn hn hL hs hi hj hk]
    by_cases c : sgn n s i j k = -100
    · rw [if_pos c]
      exact Or.inr ⟨_, rfl, Or.inr ⟨rfl, k, hk, c⟩⟩
    · rw [if_neg c]
      refine Or.inl ⟨(nI (sumN (sgn n s i j) (k + 1)), nI (4 ^ (k + 1)), nI (k + 1)), ?_, rfl, fun x hx => ?_⟩
      · have e4 : nI (4 ^ k) * (4 : Int32) = nI (4 ^ (k + 1)) := by rw [Nat.pow_succ]; exact pk_mul (4 ^ k) 4
        rw [e4, sumN_s]
        unfold dg
        by_cases c1 : sgn n s i j k = 1
        · rw [if_pos c1, if_pos c1, Option.bind_some, nI_add, Nat.one_mul, add1]
        · by_cases c2 : sgn n s i j k = -1
          · rw [if_neg c1, if_neg c1, if_pos c2, if_pos c2, Option.bind_some, show (2 : Int32) * nI (4 ^ k) = nI (2 * 4 ^ k) from pk_mul 2 (4 ^ k), nI_add, add1]
          · rw [if_neg c1, if_neg c1, if_neg c2, if_neg c2, Option.bind_some, Nat.zero_mul, add1]
            rfl
      · by_cases cx : x = k
        · rw [cx]; exact c
        · exact hv x (by omega)
  · rintro a fuel ⟨rfl, hv⟩
    refine ⟨_, ?_, Or.inl ⟨rfl, hv⟩⟩
    simp (disch := omega) only [l_X3_cocircuit_33, o_0, g_0_0, g_0_1, g_0_2, g_0_3, g_0_4, g_0_5, g_0_6, g_0_7, g_0_8, g_0_9, g_0_10, g_0_11, o_1, g_1_0, g_1_1, g_1_2, g_1_3, g_1_4, g_1_5, g_1_6, g_1_7, g_1_8, g_1_9, r_2, r_3, r_4, r_5, r_6, r_7, r_8, o_9, g_9_0, g_9_1, g_9_2, g_9_3, g_9_4, g_9_5, g_9_6, g_9_7, g_9_8, g_9_9, r_10, r_11, r_12, r_13, r_14, r_15, r_16, o_17, g_17_0, g_17_1, g_17_2, g_17_3, g_17_4, r_18, r_19, r_20, r_22, r_23, r_24, r_25, r_26, r_27, r_28, o_29, g_29_0, g_29_1, g_29_2, g_29_3, g_29_4, g_29_5, g_29_6, g_29_7, g_29_8, g_29_9, r_30, r_31, r_32, r_33, r_34, r_35, r_36, o_37, g_37_0, g_37_1, g_37_2, g_37_3, g_37_4, g_37_5, g_37_6, g_37_7, g_37_8, g_37_9, r_38, r_39, r_40, r_41, r_42, r_43, r_44, o_45, g_45_0, g_45_1, g_45_2, g_45_3, g_45_4, g_45_5, g_45_6, g_45_7, g_45_8, g_45_9, r_46, r_47, r_48, r_49, r_50, r_51, r_52, o_53, g_53_0, g_53_1, g_53_2, g_53_3, g_53_4, g_53_5, g_53_6, g_53_7, g_53_8, g_53_9, r_54, r_55, r_56, r_57, r_58, r_59, r_60, o_61, g_61_0, g_61_1, g_61_2, g_61_3, g_61_4, g_61_5, g_61_6, g_61_7, g_61_8, g_61_9, g_61_10, g_61_11, g_61_12, g_61_13, g_61_14, g_61_15, g_61_16, g_61_17, g_61_18, g_61_19, g_61_20, g_61_21, g_61_22, g_61_23, r_62, r_63, r_64, r_65, r_66, r_67, r_68, r_69, r_70, r_71, r_72, r_73, r_74, r_75, r_76, r_77, Option.bind_some, leN, hL.1, if_pos (Nat.le_refl n)]
theorem m_circ {n : Nat} (hn : n38 n) {m : Mem} (hL : LM n m) {i j : Nat} (hi : i < n) (hj : j < n) : ∀ d v fuel, d ≤ n → d < fuel → ∃ b, l_X4_cocircuit_45 61 (nI i) (nI j) (HH m) fuel (nI v) (nI d - 1) = some b ∧ ((b = .inl (nI (horn (sgn n (m.I 62) i j) d v)) ∧ ∀ x, x < d → sgn n (m.I 62) i j x ≠ -100) ∨ (b = .inr (0, HH (m.sI 61 6 3)) ∧ ∃ x, x < d ∧ sgn n (m.I 62) i j x = -100)) := by
  have h8 := hn.2
  intro d
  induction d with
  | zero =>
    intro v fuel hd hf
    obtain ⟨f, rfl⟩ : ∃ f, fuel = f + 1 := ⟨fuel - 1, by omega⟩
    refine ⟨_, ?_, Or.inl ⟨rfl, fun x hx => absurd hx (Nat.not_lt_zero x)⟩⟩
    rw [l_X4_cocircuit_45, if_pos (show nI 0 - 1 < 0 by decide)]
    rfl
  | succ d ih =>
    intro v fuel hd hf
    obtain ⟨f, rfl⟩ : ∃ f, fuel = f + 1 := ⟨fuel - 1, by omega⟩
    have e1 : nI (d + 1) - (1 : Int32) = nI d := pk_sub (a := d + 1) (b := 1) (by omega)
    have e2 : nI d + (-1 : Int32) = nI d - 1 := (Int32.sub_eq_add_neg (nI d) 1).symm
    rw [e1, l_X4_cocircuit_45, if_neg (nI_pos (by omega)), m_sgn hn hL hi hj (show d < n by omega), Option.bind_some, e2]
    by_cases c : sgn n (m.I 62) i j d = -100
    · rw [if_pos c, m_fails]
      exact ⟨_, rfl, Or.inr ⟨rfl, d, by omega, c⟩⟩
    · rw [if_neg c]
      have go : ∀ y : Nat, dg (sgn n (m.I 62) i j d) = y → ∃ b, l_X4_cocircuit_45 61 (nI i) (nI j) (HH m) f ((4 : Int32) * nI v + nI y) (nI d - 1) = some b ∧ ((b = .inl (nI (horn (sgn n (m.I 62) i j) (d + 1) v)) ∧ ∀ x, x < d + 1 → sgn n (m.I 62) i j x ≠ -100) ∨ (b = .inr (0, HH (m.sI 61 6 3)) ∧ ∃ x, x < d + 1 ∧ sgn n (m.I 62) i j x = -100)) := by
        intro y hy
        rw [show (4 : Int32) * nI v = nI (4 * v) from pk_mul 4 v, nI_add, ← hy]
        obtain ⟨b, eb, h⟩ := ih (4 * v + dg (sgn n (m.I 62) i j d)) f (by omega) (by omega)
        refine ⟨b, eb, h.imp (fun h => ⟨h.1, fun x hx => ?_⟩) (fun h => ⟨h.1, ?_⟩)⟩
        · by_cases cx : x = d
          · rw [cx]; exact c
          · exact h.2 x (by omega)
        · obtain ⟨x, hx, e⟩ := h.2
          exact ⟨x, by omega, e⟩
      by_cases c1 : sgn n (m.I 62) i j d = 1
      · rw [if_pos c1, Option.bind_some]
        exact go 1 (by unfold dg; rw [if_pos c1])
      · by_cases c2 : sgn n (m.I 62) i j d = -1
        · rw [if_neg c1, if_pos c2, Option.bind_some]
          exact go 2 (by unfold dg; rw [if_neg c1, if_pos c2])
        · rw [if_neg c1, if_neg c2, Option.bind_some]
          exact go 0 (by unfold dg; rw [if_neg c1, if_neg c2])
theorem k_cocircuit {m : Mem} (hi : INV m) (x y : Int32) : okW (f_L_cocircuit 0 x y 77) (f_X4_cocircuit 61 x y) m := by
  obtain ⟨n, s, M, q, P, PM, tl, tx, hC, hD, b⟩ := INV_out hi
  have hn := b.1.1
  have h8 := hn.2
  have h0 : m.I 62 0 = nI n := by rw [hD.2.1]; exact b.1.2.1
  have n0 : ¬ (1 : Int32) = 0 := by decide
  rcases pt_or hn x with ⟨i, hi, rfl⟩ | hx
  · rcases pt_or hn y with ⟨j, hj, rfl⟩ | hy
    · by_cases c : i = j
      · refine W_thr (k := 2) (by decide) ?_ hC b ⟨0, _, ?_, fl hD 2⟩
        · simp only [f_L_cocircuit, f_X3_cocircuit, o_0, Option.bind_some, rp_y hn hC.1 hi, rp_y hn hC.1 hj, bindT, c, if_true, if_neg (show ¬ (0 : Nat) = 1 by decide)]
        · simp only [f_X4_cocircuit, o_61, Option.bind_some, m_isP hn h0 hi, m_isP hn h0 hj, if_neg n0, c, if_true, m_fails, bind2]
      · have cI : ¬ nI i = nI j := fun e => c ((ne_of hn hi hj).mp e)
        obtain ⟨b1, e1, h1⟩ := c_circ hn hC.1 hC.2.2.1 hi hj
        have mo : ∀ m3, DD n s q P tl tx m3 → ∃ b3, l_X4_cocircuit_45 61 (nI i) (nI j) (HH m3) FU 0 (nI n - 1) = some b3 ∧ ((b3 = .inl (nI (sumN (sgn n s i j) n)) ∧ ∀ x, x < n → sgn n s i j x ≠ -100) ∨ (b3 = .inr (0, HH (m3.sI 61 6 3)) ∧ ∃ x, x < n ∧ sgn n s i j x = -100)) := by
          intro m3 hD3
          obtain ⟨b3, e3, h3⟩ := m_circ hn hD3.1 hi hj n 0 FU (Nat.le_refl n) (FUx (by omega))
          rw [hD3.2.1, horn_e, Nat.zero_mul, Nat.zero_add] at h3
          exact ⟨b3, e3, h3⟩
        have ea : ∀ m3, DD n s q P tl tx m3 → aI (HH m3) 62 0 = some (nI n) := fun m3 hD3 => (r_62 m3 (i := 0) (by omega)).trans (by rw [hD3.2.1, b.1.2.1])
        rcases h1 with ⟨rfl, h1⟩ | ⟨rfl, x, hx, h1⟩
        · refine W_ok (m1 := m) (w := (nI (sumN (sgn n s i j) n)).toInt64) ?_ hC (upC_rf m) hD b (fun m3 hD3 => ?_)
          · simp only [f_L_cocircuit, f_X3_cocircuit, o_0, Option.bind_some, rp_y hn hC.1 hi, rp_y hn hC.1 hj, bindT, if_neg cI, e1, bindR1, w77]
          · obtain ⟨b3, e3, h3⟩ := mo m3 hD3
            rcases h3 with ⟨rfl, h3⟩ | ⟨rfl, x, hx, h3⟩
            · refine ⟨_, _, ?_, rfl, fl hD3 0⟩
              have h30 : m3.I 62 0 = nI n := by rw [hD3.2.1]; exact b.1.2.1
              simp only [f_X4_cocircuit, o_0, g_0_0, g_0_1, g_0_2, g_0_3, g_0_4, g_0_5, g_0_6, g_0_7, g_0_8, g_0_9, g_0_10, g_0_11, o_1, g_1_0, g_1_1, g_1_2, g_1_3, g_1_4, g_1_5, g_1_6, g_1_7, g_1_8, g_1_9, r_2, r_3, r_4, r_5, r_6, r_7, r_8, o_9, g_9_0, g_9_1, g_9_2, g_9_3, g_9_4, g_9_5, g_9_6, g_9_7, g_9_8, g_9_9, r_10, r_11, r_12, r_13, r_14, r_15, r_16, o_17, g_17_0, g_17_1, g_17_2, g_17_3, g_17_4, r_18, r_19, r_20, r_22, r_23, r_24, r_25, r_26, r_27, r_28, o_29, g_29_0, g_29_1, g_29_2, g_29_3, g_29_4, g_29_5, g_29_6, g_29_7, g_29_8, g_29_9, r_30, r_31, r_32, r_33, r_34, r_35, r_36, o_37, g_37_0, g_37_1, g_37_2, g_37_3, g_37_4, g_37_5, g_37_6, g_37_7, g_37_8, g_37_9, r_38, r_39, r_40, r_41, r_42, r_43, r_44, o_45, g_45_0, g_45_1, g_45_2, g_45_3, g_45_4, g_45_5, g_45_6, g_45_7, g_45_8, g_45_9, r_46, r_47, r_48, r_49, r_50, r_51, r_52, o_53, g_53_0, g_53_1, g_53_2, g_53_3, g_53_4, g_53_5, g_53_6, g_53_7, g_53_8, g_53_9, r_54, r_55, r_56, r_57, r_58, r_59, r_60, o_61, g_61_0, g_61_1, g_61_2, g_61_3, g_61_4, g_61_5, g_61_6, g_61_7, g_61_8, g_61_9, g_61_10, g_61_11, g_61_12, g_61_13, g_61_14, g_61_15, g_61_16, g_61_17, g_61_18, g_61_19, g_61_20, g_61_21, g_61_22, g_61_23, r_62, r_63, r_64, r_65, r_66, r_67, r_68, r_69, r_70, r_71, r_72, r_73, r_74, r_75, r_76, r_77, Option.bind_some, m_isP hn h30 hi, m_isP hn h30 hj, if_neg n0, if_neg cI, ea m3 hD3, e3, bindR1, m_tells, bind2]
            · exact absurd h3 (h1 x hx)
        · refine W_thr (k := 3) (by decide) ?_ hC b ?_
          · simp only [f_L_cocircuit, f_X3_cocircuit, o_0, Option.bind_some, rp_y hn hC.1 hi, rp_y hn hC.1 hj, bindT, if_neg cI, e1, bindR1, if_true, if_neg (show ¬ (2 : Nat) = 1 by decide), if_neg (show ¬ (2 : Nat) = 0 by decide)]
          · obtain ⟨b3, e3, h3⟩ := mo m hD
            rcases h3 with ⟨rfl, h3⟩ | ⟨rfl, x, hx, h3⟩
            · exact absurd h1 (h3 x hx)
            · refine ⟨0, _, ?_, fl hD 3⟩
              simp only [f_X4_cocircuit, o_0, g_0_0, g_0_1, g_0_2, g_0_3, g_0_4, g_0_5, g_0_6, g_0_7, g_0_8, g_0_9, g_0_10, g_0_11, o_1, g_1_0, g_1_1, g_1_2, g_1_3, g_1_4, g_1_5, g_1_6, g_1_7, g_1_8, g_1_9, r_2, r_3, r_4, r_5, r_6, r_7, r_8, o_9, g_9_0, g_9_1, g_9_2, g_9_3, g_9_4, g_9_5, g_9_6, g_9_7, g_9_8, g_9_9, r_10, r_11, r_12, r_13, r_14, r_15, r_16, o_17, g_17_0, g_17_1, g_17_2, g_17_3, g_17_4, r_18, r_19, r_20, r_22, r_23, r_24, r_25, r_26, r_27, r_28, o_29, g_29_0, g_29_1, g_29_2, g_29_3, g_29_4, g_29_5, g_29_6, g_29_7, g_29_8, g_29_9, r_30, r_31, r_32, r_33, r_34, r_35, r_36, o_37, g_37_0, g_37_1, g_37_2, g_37_3, g_37_4, g_37_5, g_37_6, g_37_7, g_37_8, g_37_9, r_38, r_39, r_40, r_41, r_42, r_43, r_44, o_45, g_45_0, g_45_1, g_45_2, g_45_3, g_45_4, g_45_5, g_45_6, g_45_7, g_45_8, g_45_9, r_46, r_47, r_48, r_49, r_50, r_51, r_52, o_53, g_53_0, g_53_1, g_53_2, g_53_3, g_53_4, g_53_5, g_53_6, g_53_7, g_53_8, g_53_9, r_54, r_55, r_56, r_57, r_58, r_59, r_60, o_61, g_61_0, g_61_1, g_61_2, g_61_3, g_61_4, g_61_5, g_61_6, g_61_7, g_61_8, g_61_9, g_61_10, g_61_11, g_61_12, g_61_13, g_61_14, g_61_15, g_61_16, g_61_17, g_61_18, g_61_19, g_61_20, g_61_21, g_61_22, g_61_23, r_62, r_63, r_64, r_65, r_66, r_67, r_68, r_69, r_70, r_71, r_72, r_73, r_74, r_75, r_76, r_77, Option.bind_some, m_isP hn h0 hi, m_isP hn h0 hj, if_neg n0, if_neg cI, ea m hD, e3, bindR1]
    · refine W_thr (k := 1) (by decide) ?_ hC b ⟨0, _, ?_, fl hD 1⟩
      · simp only [f_L_cocircuit, f_X3_cocircuit, o_0, Option.bind_some, rp_y hn hC.1 hi, rp_n hC.1 hy, bindT, if_true]
      · simp only [f_X4_cocircuit, o_61, Option.bind_some, m_isP hn h0 hi, m_noP hn h0 hy, if_neg n0, if_true, m_fails, bind2]
  · refine W_thr (k := 1) (by decide) ?_ hC b ⟨0, _, ?_, fl hD 1⟩
    · simp only [f_L_cocircuit, f_X3_cocircuit, o_0, Option.bind_some, rp_n hC.1 hx, bindT, if_true]
    · simp only [f_X4_cocircuit, o_61, Option.bind_some, m_noP hn h0 hx, if_true, m_fails, bind2]
/-! extreme points -/
def cz (z : Nat → Int32) (v : Int32) (k : Nat) : Nat := cntN (fun x => z x = v) k
theorem cz_s (z : Nat → Int32) (v : Int32) (k : Nat) : cz z v (k + 1) = if z k = v then cz z v k + 1 else cz z v k := rfl
theorem cz_le (z : Nat → Int32) (v : Int32) (k : Nat) : cz z v k ≤ k := cntN_le _ k
/-- all others on one side of a line -/
def brdN (z : Nat → Int32) (n : Nat) : Nat := if cz z (-100) n = 0 ∧ (cz z 1 n = 0 ∨ cz z (-1) n = 0) ∧ 0 < cz z 1 n + cz z (-1) n then 1 else 0
def b01 (k : Nat) : Int32 := if k = 0 then 0 else 1
theorem b01_n (z : Nat → Int32) (v : Int32) (k : Nat) : (if b01 (cz z v k) = 0 then (if z k = v then some (1 : Int32) else some 0) else some 1) = some (b01 (cz z v (k + 1))) := by
  rw [cz_s]
  unfold b01
  by_cases d : cz z v k = 0
  · rw [if_pos d, if_pos rfl]
    by_cases c : z k = v
    · rw [if_pos c, if_pos c, if_neg (show ¬ cz z v k + 1 = 0 by omega)]
    · rw [if_neg c, if_neg c, if_pos d]
  · rw [if_neg d, if_neg (show ¬ (1 : Int32) = 0 by decide)]
    by_cases c : z k = v
    · rw [if_pos c, if_neg (show ¬ cz z v k + 1 = 0 by omega)]
    · rw [if_neg c, if_neg d]
theorem c_borders {n : Nat} (hn : n38 n) {m : Mem} (hL : LC n m) {s : Nat → Int32} {M : Nat → Int64} (hs : RS 9 m s M) {i j : Nat} (hi : i < n) (hj : j < n) : f_X3_borders 0 (nI i) (nI j) (HH m) = some (nI (brdN (sgn n s i j) n)) := by
  have h8 := hn.2
  have key : ∃ b, l_X3_borders_8 0 (nI i) (nI j) (HH m) FU 0 0 (nI 0) = some b ∧ ((b = .inl (b01 (cz (sgn n s i j) 1 n), b01 (cz (sgn n s i j) (-1) n)) ∧ cz (sgn n s i j) (-100) n = 0) ∨ (b = .inr 0 ∧ cz (sgn n s i j) (-100) n ≠ 0)) := by
    refine loopR (fun fuel (a : Int32 × Int32 × Int32) => l_X3_borders_8 0 (nI i) (nI j) (HH m) fuel a.1 a.2.1 a.2.2) (fun k a => a = (b01 (cz (sgn n s i j) 1 k), b01 (cz (sgn n s i j) (-1) k), nI k) ∧ cz (sgn n s i j) (-100) k = 0) _ n ?_ ?_ n 0 (0, 0, nI 0) FU (by omega) (FUx (by omega)) ⟨rfl, rfl⟩
    · rintro k a fuel hk ⟨rfl, hv⟩
      simp (disch := omega) only [l_X3_borders_8, o_0, g_0_0, g_0_1, g_0_2, g_0_3, g_0_4, g_0_5, g_0_6, g_0_7, g_0_8, g_0_9, g_0_10, g_0_11, o_1, g_1_0, g_1_1, g_1_2, g_1_3, g_1_4, g_1_5, g_1_6, g_1_7, g_1_8, g_1_9, r_2, r_3, r_4, r_5, r_6, r_7, r_8, o_9, g_9_0, g_9_1, g_9_2, g_9_3, g_9_4, g_9_5, g_9_6, g_9_7, g_9_8, g_9_9, r_10, r_11, r_12, r_13, r_14, r_15, r_16, o_17, g_17_0, g_17_1, g_17_2, g_17_3, g_17_4, r_18, r_19, r_20, r_22, r_23, r_24, r_25, r_26, r_27, r_28, o_29, g_29_0, g_29_1, g_29_2, g_29_3, g_29_4, g_29_5, g_29_6, g_29_7, g_29_8, g_29_9, r_30, r_31, r_32, r_33, r_34, r_35, r_36, o_37, g_37_0, g_37_1, g_37_2, g_37_3, g_37_4, g_37_5, g_37_6, g_37_7, g_37_8, g_37_9, r_38, r_39, r_40, r_41, r_42, r_43, r_44, o_45, g_45_0, g_45_1, g_45_2, g_45_3, g_45_4, g_45_5, g_45_6, g_45_7, g_45_8, g_45_9, r_46, r_47, r_48, r_49, r_50, r_51, r_52, o_53, g_53_0, g_53_1, g_53_2, g_53_3, g_53_4, g_53_5, g_53_6, g_53_7, g_53_8, g_53_9, r_54, r_55, r_56, r_57, r_58, r_59, r_60, o_61, g_61_0, g_61_1, g_61_2, g_61_3, g_61_4, g_61_5, g_61_6, g_61_7, g_61_8, g_61_9, g_61_10, g_61_11, g_61_12, g_61_13, g_61_14, g_61_15, g_61_16, g_61_17, g_61_18, g_61_19, g_61_20, g_61_21, g_61_22, g_61_23, r_62, r_63, r_64, r_65, r_66, r_67, r_68, r_69, r_70, r_71, r_72, r_73, r_74, r_75, r_76, r_77, Option.bind_some, leN, hL.1, if_neg (show ¬ n ≤ k by omega), cl_sgn hn hL hs hi hj hk, b01_n (sgn n s i j) 1 k, b01_n (sgn n s i j) (-1) k, add1]
      by_cases c : sgn n s i j k = -100
      · rw [if_pos c]
        refine Or.inr ⟨_, rfl, Or.inr ⟨rfl, fun h => ?_⟩⟩
        exact (cntN_0 _ n).mp h k hk c
      · rw [if_neg c]
        exact Or.inl ⟨_, rfl, rfl, by rw [cz_s, if_neg c]; exact hv⟩
    · rintro a fuel ⟨rfl, hv⟩
      refine ⟨_, ?_, Or.inl ⟨rfl, hv⟩⟩
      simp (disch := omega) only [l_X3_borders_8, o_0, g_0_0, g_0_1, g_0_2, g_0_3, g_0_4, g_0_5, g_0_6, g_0_7, g_0_8, g_0_9, g_0_10, g_0_11, o_1, g_1_0, g_1_1, g_1_2, g_1_3, g_1_4, g_1_5, g_1_6, g_1_7, g_1_8, g_1_9, r_2, r_3, r_4, r_5, r_6, r_7, r_8, o_9, g_9_0, g_9_1, g_9_2, g_9_3, g_9_4, g_9_5, g_9_6, g_9_7, g_9_8, g_9_9, r_10, r_11, r_12, r_13, r_14, r_15, r_16, o_17, g_17_0, g_17_1, g_17_2, g_17_3, g_17_4, r_18, r_19, r_20, r_22, r_23, r_24, r_25, r_26, r_27, r_28, o_29, g_29_0, g_29_1, g_29_2, g_29_3, g_29_4, g_29_5, g_29_6, g_29_7, g_29_8, g_29_9, r_30, r_31, r_32, r_33, r_34, r_35, r_36, o_37, g_37_0, g_37_1, g_37_2, g_37_3, g_37_4, g_37_5, g_37_6, g_37_7, g_37_8, g_37_9, r_38, r_39, r_40, r_41, r_42, r_43, r_44, o_45, g_45_0, g_45_1, g_45_2, g_45_3, g_45_4, g_45_5, g_45_6, g_45_7, g_45_8, g_45_9, r_46, r_47, r_48, r_49, r_50, r_51, r_52, o_53, g_53_0, g_53_1, g_53_2, g_53_3, g_53_4, g_53_5, g_53_6, g_53_7, g_53_8, g_53_9, r_54, r_55, r_56, r_57, r_58, r_59, r_60, o_61, g_61_0, g_61_1, g_61_2, g_61_3, g_61_4, g_61_5, g_61_6, g_61_7, g_61_8, g_61_9, g_61_10, g_61_11, g_61_12, g_61_13, g_61_14, g_61_15, g_61_16, g_61_17, g_61_18, g_61_19, g_61_20, g_61_21, g_61_22, g_61_23, r_62, r_63, r_64, r_65, r_66, r_67, r_68, r_69, r_70, r_71, r_72, r_73, r_74, r_75, r_76, r_77, Option.bind_some, leN, hL.1, if_pos (Nat.le_refl n)]
  obtain ⟨b, e, h⟩ := key
  simp only [f_X3_borders, o_0, Option.bind_some]
  rw [show l_X3_borders_8 0 (nI i) (nI j) (HH m) FU 0 0 0 = _ from e]
  unfold brdN
  rcases h with ⟨rfl, h⟩ | ⟨rfl, h⟩
  · simp only [bindR2]
    unfold b01
    by_cases c1 : cz (sgn n s i j) 1 n = 0
    · by_cases c2 : cz (sgn n s i j) (-1) n = 0
      · rw [if_pos c1, if_pos c2, if_pos rfl, if_neg (by omega)]
        rfl
      · rw [if_pos c1, if_neg c2, if_neg (by decide), if_pos (by omega)]
        rfl
    · by_cases c2 : cz (sgn n s i j) (-1) n = 0
      · rw [if_neg c1, if_pos c2, if_neg (by decide), if_pos (by omega)]
        rfl
      · rw [if_neg c1, if_neg c2, if_pos rfl, if_neg (by omega)]
        rfl
  · simp only [bindR2]
    rw [if_neg (by omega)]
    rfl
theorem m_borders {n : Nat} (hn : n38 n) {m : Mem} (hL : LM n m) (h0 : m.I 62 0 = nI n) {i j : Nat} (hi : i < n) (hj : j < n) {v : Int32} (hv : v = 0 ∨ v = 1) : l_X4_extreme_35 61 (nI i) (nI j) (HH m) FU 0 0 v 0 = some (nI (cz (sgn n (m.I 62) i j) 1 n), nI (cz (sgn n (m.I 62) i j) (-1) n), if v = 1 ∧ cz (sgn n (m.I 62) i j) (-100) n = 0 then 1 else 0) := by
  have h8 := hn.2
  have ea : aI (HH m) 62 0 = some (nI n) := (r_62 m (i := 0) (by omega)).trans (by rw [h0])
  have key : ∃ b, l_X4_extreme_35 61 (nI i) (nI j) (HH m) FU (nI 0) (nI 0) v (nI 0) = some b ∧ b = (nI (cz (sgn n (m.I 62) i j) 1 n), nI (cz (sgn n (m.I 62) i j) (-1) n), if v = 1 ∧ cz (sgn n (m.I 62) i j) (-100) n = 0 then 1 else 0) := by
    refine loopR (fun fuel (a : Int32 × Int32 × Int32 × Int32) => l_X4_extreme_35 61 (nI i) (nI j) (HH m) fuel a.1 a.2.1 a.2.2.1 a.2.2.2) (fun k a => a = (nI (cz (sgn n (m.I 62) i j) 1 k), nI (cz (sgn n (m.I 62) i j) (-1) k), (if v = 1 ∧ cz (sgn n (m.I 62) i j) (-100) k = 0 then 1 else 0), nI k)) _ n ?_ ?_ n 0 (nI 0, nI 0, v, nI 0) FU (by omega) (FUx (by omega)) (by rcases hv with rfl | rfl <;> rfl)
    · rintro k a fuel hk rfl
      have s1 : ∀ x : Nat, ∀ z : Int32, (if sgn n (m.I 62) i j k = z then some (1 : Int32) else some 0) = some (if sgn n (m.I 62) i j k = z then 1 else 0) := fun x z => by split <;> rfl
      have s3 : (if (if v = 1 ∧ cz (sgn n (m.I 62) i j) (-100) k = 0 then (1 : Int32) else 0) = 0 then some (0 : Int32) else if sgn n (m.I 62) i j k = -100 then some 0 else some 1) = some (if v = 1 ∧ cz (sgn n (m.I 62) i j) (-100) (k + 1) = 0 then 1 else 0) := by
        rw [cz_s]
        by_cases c : v = 1 ∧ cz (sgn n (m.I 62) i j) (-100) k = 0
        · rw [if_pos c, if_neg (by decide)]
          by_cases d : sgn n (m.I 62) i j k = -100
          · rw [if_pos d, if_pos d, if_neg (fun h => by have := h.2; omega)]
          · rw [if_neg d, if_neg d, if_pos c]
        · rw [if_neg c, if_pos rfl]
          by_cases d : sgn n (m.I 62) i j k = -100
          · rw [if_pos d, if_neg (fun h => by have := h.2; omega)]
          · rw [if_neg d, if_neg c]
      have s4 : ∀ z : Int32, nI (cz (sgn n (m.I 62) i j) z k) + (if sgn n (m.I 62) i j k = z then (1 : Int32) else 0) = nI (cz (sgn n (m.I 62) i j) z (k + 1)) := fun z => by
        rw [cz_s]
        by_cases d : sgn n (m.I 62) i j k = z
        · rw [if_pos d, if_pos d, add_1]
        · rw [if_neg d, if_neg d, add_0]
      refine Or.inl ⟨_, ?_, rfl⟩
      simp (disch := omega) only [l_X4_extreme_35, g_61_0, ea, leN, if_neg (show ¬ n ≤ k by omega), Option.bind_some, m_sgn hn hL hi hj hk, s3]
      rw [s1 0 1, s1 0 (-1), Option.bind_some, Option.bind_some, s4, s4, add_1]
    · rintro a fuel rfl
      refine ⟨_, ?_, rfl⟩
      simp (disch := omega) only [l_X4_extreme_35, g_61_0, ea, leN, if_pos (Nat.le_refl n), Option.bind_some]
  obtain ⟨b, e, rfl⟩ := key
  exact e
/-- how many lines show that a point is extreme -/
def exQ (n : Nat) (s : Nat → Int32) (i k : Nat) : Nat := cntN (fun j => j ≠ i ∧ brdN (sgn n s i j) n = 1) k
theorem exQ_s (n : Nat) (s : Nat → Int32) (i k : Nat) : exQ n s i (k + 1) = if k ≠ i ∧ brdN (sgn n s i k) n = 1 then exQ n s i k + 1 else exQ n s i k := rfl
theorem brd01 (z : Nat → Int32) (n : Nat) : brdN z n = 0 ∨ brdN z n = 1 := by
  unfold brdN
  split
  · exact Or.inr rfl
  · exact Or.inl rfl
theorem c_ext {n : Nat} (hn : n38 n) {m : Mem} (hL : LC n m) {s : Nat → Int32} {M : Nat → Int64} (hs : RS 9 m s M) {i : Nat} (hi : i < n) : f_X3_isExtreme 0 (nI i) (HH m) = some (.inr (b01 (exQ n s i n))) := by
  have h8 := hn.2
  have key : ∃ b, l_X3_isExtreme_7 0 (nI i) (HH m) FU (nI 0) = some b ∧ ((b = .inl () ∧ exQ n s i n = 0) ∨ (b = .inr (.inr 1) ∧ exQ n s i n ≠ 0)) := by
    refine loopR (fun fuel (a : Int32) => l_X3_isExtreme_7 0 (nI i) (HH m) fuel a) (fun k a => a = nI k ∧ exQ n s i k = 0) _ n ?_ ?_ n 0 (nI 0) FU (by omega) (FUx (by omega)) ⟨rfl, rfl⟩
    · rintro k a fuel hk ⟨rfl, hv⟩
      simp (disch := omega) only [l_X3_isExtreme_7, o_0, g_0_0, g_0_1, g_0_2, g_0_3, g_0_4, g_0_5, g_0_6, g_0_7, g_0_8, g_0_9, g_0_10, g_0_11, o_1, g_1_0, g_1_1, g_1_2, g_1_3, g_1_4, g_1_5, g_1_6, g_1_7, g_1_8, g_1_9, r_2, r_3, r_4, r_5, r_6, r_7, r_8, o_9, g_9_0, g_9_1, g_9_2, g_9_3, g_9_4, g_9_5, g_9_6, g_9_7, g_9_8, g_9_9, r_10, r_11, r_12, r_13, r_14, r_15, r_16, o_17, g_17_0, g_17_1, g_17_2, g_17_3, g_17_4, r_18, r_19, r_20, r_22, r_23, r_24, r_25, r_26, r_27, r_28, o_29, g_29_0, g_29_1, g_29_2, g_29_3, g_29_4, g_29_5, g_29_6, g_29_7, g_29_8, g_29_9, r_30, r_31, r_32, r_33, r_34, r_35, r_36, o_37, g_37_0, g_37_1, g_37_2, g_37_3, g_37_4, g_37_5, g_37_6, g_37_7, g_37_8, g_37_9, r_38, r_39, r_40, r_41, r_42, r_43, r_44, o_45, g_45_0, g_45_1, g_45_2, g_45_3, g_45_4, g_45_5, g_45_6, g_45_7, g_45_8, g_45_9, r_46, r_47, r_48, r_49, r_50, r_51, r_52, o_53, g_53_0, g_53_1, g_53_2, g_53_3, g_53_4, g_53_5, g_53_6, g_53_7, g_53_8, g_53_9, r_54, r_55, r_56, r_57, r_58, r_59, r_60, o_61, g_61_0, g_61_1, g_61_2, g_61_3, g_61_4, g_61_5, g_61_6, g_61_7, g_61_8, g_61_9, g_61_10, g_61_11, g_61_12, g_61_13, g_61_14, g_61_15, g_61_16, g_61_17, g_61_18, g_61_19, g_61_20, g_61_21, g_61_22, g_61_23, r_62, r_63, r_64, r_65, r_66, r_67, r_68, r_69, r_70, r_71, r_72, r_73, r_74, r_75, r_76, r_77, Option.bind_some, leN, hL.1, if_neg (show ¬ n ≤ k by omega), ne_of hn hk hi, c_borders hn hL hs hi hk, add1]
      by_cases c : k = i
      · rw [if_pos c]
        exact Or.inl ⟨_, rfl, rfl, by rw [exQ_s, if_neg (fun h => h.1 c)]; exact hv⟩
      · rw [if_neg c]
        rcases brd01 (sgn n s i k) n with d | d
        · rw [d, if_pos (show nI 0 = 0 from rfl)]
          exact Or.inl ⟨_, rfl, rfl, by rw [exQ_s, if_neg (fun h => by rw [d] at h; exact absurd h.2 (by decide))]; exact hv⟩
        · rw [d, if_neg (show ¬ nI 1 = 0 by decide)]
          refine Or.inr ⟨_, rfl, Or.inr ⟨rfl, fun h => ?_⟩⟩
          exact (cntN_0 _ n).mp h k hk ⟨c, d⟩
    · rintro a fuel ⟨rfl, hv⟩
      refine ⟨_, ?_, Or.inl ⟨rfl, hv⟩⟩
      simp (disch := omega) only [l_X3_isExtreme_7, o_0, g_0_0, g_0_1, g_0_2, g_0_3, g_0_4, g_0_5, g_0_6, g_0_7, g_0_8, g_0_9, g_0_10, g_0_11, o_1, g_1_0, g_1_1, g_1_2, g_1_3, g_1_4, g_1_5, g_1_6, g_1_7, g_1_8, g_1_9, r_2, r_3, r_4, r_5, r_6, r_7, r_8, o_9, g_9_0, g_9_1, g_9_2, g_9_3, g_9_4, g_9_5, g_9_6, g_9_7, g_9_8, g_9_9, r_10, r_11, r_12, r_13, r_14, r_15, r_16, o_17, g_17_0, g_17_1, g_17_2, g_17_3, g_17_4, r_18, r_19, r_20, r_22, r_23, r_24, r_25, r_26, r_27, r_28, o_29, g_29_0, g_29_1, g_29_2, g_29_3, g_29_4, g_29_5, g_29_6, g_29_7, g_29_8, g_29_9, r_30, r_31, r_32, r_33, r_34, r_35, r_36, o_37, g_37_0, g_37_1, g_37_2, g_37_3, g_37_4, g_37_5, g_37_6, g_37_7, g_37_8, g_37_9, r_38, r_39, r_40, r_41, r_42, r_43, r_44, o_45, g_45_0, g_45_1, g_45_2, g_45_3, g_45_4, g_45_5, g_45_6, g_45_7, g_45_8, g_45_9, r_46, r_47, r_48, r_49, r_50, r_51, r_52, o_53, g_53_0, g_53_1, g_53_2, g_53_3, g_53_4, g_53_5, g_53_6, g_53_7, g_53_8, g_53_9, r_54, r_55, r_56, r_57, r_58, r_59, r_60, o_61, g_61_0, g_61_1, g_61_2, g_61_3, g_61_4, g_61_5, g_61_6, g_61_7, g_61_8, g_61_9, g_61_10, g_61_11, g_61_12, g_61_13, g_61_14, g_61_15, g_61_16, g_61_17, g_61_18, g_61_19, g_61_20, g_61_21, g_61_22, g_61_23, r_62, r_63, r_64, r_65, r_66, r_67, r_68, r_69, r_70, r_71, r_72, r_73, r_74, r_75, r_76, r_77, Option.bind_some, leN, hL.1, if_pos (Nat.le_refl n)]
  obtain ⟨b, e, h⟩ := key
  simp only [f_X3_isExtreme, o_0, Option.bind_some, rp_y hn hL hi, bindT]
  rw [show l_X3_isExtreme_7 0 (nI i) (HH m) FU 0 = _ from e]
  unfold b01
  rcases h with ⟨rfl, h⟩ | ⟨rfl, h⟩
  · rw [if_pos h]
    rfl
  · rw [if_neg h]
    rfl
theorem ext_step (e a b u : Nat) (c : Prop) [Decidable c] (ha : a ≤ 8) (hb : b ≤ 8) : (if b01 e = 0 then (if (if (if c then (0 : Int32) else 1) = 1 ∧ u = 0 then (1 : Int32) else 0) = 0 then some (0 : Int32) else if nI a = 0 then (if nI a + nI b ≤ 0 then some 0 else some 1) else if nI b = 0 then (if nI a + nI b ≤ 0 then some 0 else some 1) else some 0) else some 1) = some (b01 (if ¬ c ∧ (if u = 0 ∧ (a = 0 ∨ b = 0) ∧ 0 < a + b then 1 else 0) = 1 then e + 1 else e)) := by
  have q1 : (nI a = 0) = (a = 0) := propext (nI_eq (b := 0) (by omega) (by decide))
  have q2 : (nI b = 0) = (b = 0) := propext (nI_eq (b := 0) (by omega) (by decide))
  have q3 : (nI a + nI b ≤ 0) = (a = 0 ∧ b = 0) := by
    rw [nI_add, leO (by omega)]
    exact propext (by omega)
  have q4 : (0 < a + b) = ¬ (a = 0 ∧ b = 0) := propext (by omega)
  simp only [q1, q2, q3, q4, b01]
  by_cases e0 : e = 0 <;> by_cases hc : c <;> by_cases hu : u = 0 <;> by_cases h1 : a = 0 <;> by_cases h2 : b = 0 <;> simp [e0, hc, hu, h1, h2]
theorem m_ext {n : Nat} (hn : n38 n) {m : Mem} (hL : LM n m) (h0 : m.I 62 0 = nI n) {i : Nat} (hi : i < n) : f_X4_extreme 61 (nI i) (HH m) = some (b01 (exQ n (m.I 62) i n)) := by
  have h8 := hn.2
  have ea : aI (HH m) 62 0 = some (nI n) := (r_62 m (i := 0) (by omega)).trans (by rw [h0])
  have key : ∃ b, l_X4_extreme_4 61 (nI i) (HH m) FU 0 (nI 0) = some b ∧ b = b01 (exQ n (m.I 62) i n) := by
    refine loopR (fun fuel (a : Int32 × Int32) => l_X4_extreme_4 61 (nI i) (HH m) fuel a.1 a.2) (fun k a => a = (b01 (exQ n (m.I 62) i k), nI k)) _ n ?_ ?_ n 0 (0, nI 0) FU (by omega) (FUx (by omega)) rfl
    · rintro k a fuel hk rfl
      refine Or.inl ⟨(b01 (exQ n (m.I 62) i (k + 1)), nI (k + 1)), ?_, rfl⟩
      have e5 : (if k = i then some (0 : Int32) else some 1) = some (if k = i then 0 else 1) := by split <;> rfl
      have em := m_borders hn hL h0 hi hk (v := if k = i then 0 else 1) (by split <;> simp)
      simp (disch := omega) only [l_X4_extreme_4, g_61_0, ea, leN, if_neg (show ¬ n ≤ k by omega), Option.bind_some, ne_of hn hk hi, e5, em, bind3, add_1]
      have p1 := cz_le (sgn n (m.I 62) i k) 1 n
      have p2 := cz_le (sgn n (m.I 62) i k) (-1) n
      have h := ext_step (exQ n (m.I 62) i k) (cz (sgn n (m.I 62) i k) 1 n) (cz (sgn n (m.I 62) i k) (-1) n) (cz (sgn n (m.I 62) i k) (-100) n) (k = i) (by omega) (by omega)
      rw [h, Option.bind_some]
      rfl
    · rintro a fuel rfl
      refine ⟨_, ?_, rfl⟩
      simp (disch := omega) only [l_X4_extreme_4, g_61_0, ea, leN, if_pos (Nat.le_refl n), Option.bind_some]
  obtain ⟨b, e, rfl⟩ := key
  simp only [f_X4_extreme, o_61, Option.bind_some]
  rw [show l_X4_extreme_4 61 (nI i) (HH m) FU 0 0 = _ from e, Option.bind_some, show gB (b01 (exQ n (m.I 62) i n)) = some () from if_pos (by unfold b01; split <;> simp), Option.bind_some]
theorem b01_01 (k : Nat) : b01 k = 0 ∨ b01 k = 1 := by
  unfold b01
  split <;> simp
theorem k_extreme {m : Mem} (hi : INV m) (x : Int32) : okW (f_L_isExtreme 0 x 77) (f_X4_isExtreme 61 x) m := by
  obtain ⟨n, s, M, q, P, PM, tl, tx, hC, hD, b⟩ := INV_out hi
  have hn := b.1.1
  have h0 : m.I 62 0 = nI n := by rw [hD.2.1]; exact b.1.2.1
  have n0 : ¬ (1 : Int32) = 0 := by decide
  rcases pt_or hn x with ⟨i, hi, rfl⟩ | hx
  · refine W_ok (m1 := m) (w := (b01 (exQ n s i n)).toInt64) ?_ hC (upC_rf m) hD b (fun m3 hD3 => ?_)
    · simp only [f_L_isExtreme, c_ext hn hC.1 hC.2.2.1 hi, bindT, w77, Option.bind_some]
      rcases b01_01 (exQ n s i n) with e | e <;> rw [e] <;> rfl
    · have h30 : m3.I 62 0 = nI n := by rw [hD3.2.1]; exact b.1.2.1
      obtain ⟨d1, d2, d3⟩ := fl hD3 0
      have e := m_ext hn d1.1 (by rw [d1.2.1]; exact b.1.2.1) hi
      rw [d1.2.1] at e
      refine ⟨_, _, ?_, rfl, d1, d2, d3⟩
      simp only [f_X4_isExtreme, o_0, g_0_0, g_0_1, g_0_2, g_0_3, g_0_4, p_0_4, g_0_5, g_0_6, g_0_7, g_0_8, g_0_9, g_0_10, g_0_11, o_1, g_1_0, p_1_0, g_1_1, p_1_1, g_1_2, p_1_2, g_1_3, g_1_4, g_1_5, g_1_6, g_1_7, g_1_8, g_1_9, r_2, w_2, r_3, w_3, r_4, w_4, r_5, w_5, r_6, w_6, r_7, w_7, r_8, w_8, o_9, g_9_0, p_9_0, g_9_1, p_9_1, g_9_2, p_9_2, g_9_3, g_9_4, g_9_5, g_9_6, g_9_7, g_9_8, g_9_9, r_10, w_10, r_11, w_11, r_12, w_12, r_13, w_13, r_14, w_14, r_15, w_15, r_16, w_16, o_17, g_17_0, g_17_1, p_17_1, g_17_2, g_17_3, g_17_4, p_17_4, r_18, w_18, r_19, w_19, r_20, w_20, r_22, w_22, r_23, w_23, r_24, w_24, r_25, w_25, r_26, w_26, r_27, w_27, r_28, w_28, o_29, g_29_0, p_29_0, g_29_1, p_29_1, g_29_2, p_29_2, g_29_3, g_29_4, g_29_5, g_29_6, g_29_7, g_29_8, g_29_9, r_30, w_30, r_31, w_31, r_32, w_32, r_33, w_33, r_34, w_34, r_35, w_35, r_36, w_36, o_37, g_37_0, p_37_0, g_37_1, p_37_1, g_37_2, p_37_2, g_37_3, g_37_4, g_37_5, g_37_6, g_37_7, g_37_8, g_37_9, r_38, w_38, r_39, w_39, r_40, w_40, r_41, w_41, r_42, w_42, r_43, w_43, r_44, w_44, o_45, g_45_0, p_45_0, g_45_1, p_45_1, g_45_2, p_45_2, g_45_3, g_45_4, g_45_5, g_45_6, g_45_7, g_45_8, g_45_9, r_46, w_46, r_47, w_47, r_48, w_48, r_49, w_49, r_50, w_50, r_51, w_51, r_52, w_52, o_53, g_53_0, p_53_0, g_53_1, p_53_1, g_53_2, p_53_2, g_53_3, g_53_4, g_53_5, g_53_6, g_53_7, g_53_8, g_53_9, r_54, w_54, r_55, w_55, r_56, w_56, r_57, w_57, r_58, w_58, r_59, w_59, r_60, w_60, o_61, g_61_0, g_61_1, g_61_2, g_61_3, p_61_3, g_61_4, g_61_5, p_61_5, g_61_6, p_61_6, g_61_7, g_61_8, g_61_9, p_61_9, g_61_10, g_61_11, p_61_11, g_61_12, p_61_12, g_61_13, g_61_14, g_61_15, g_61_16, g_61_17, g_61_18, g_61_19, g_61_20, p_61_20, g_61_21, p_61_21, g_61_22, g_61_23, p_61_23, r_62, w_62, r_63, w_63, r_64, w_64, r_65, w_65, r_66, w_66, r_67, w_67, r_68, w_68, r_69, w_69, r_70, w_70, r_71, w_71, r_72, w_72, r_73, w_73, r_74, w_74, r_75, w_75, r_76, w_76, r_77, w_77, Option.bind_some, m_isP hn h30 hi, if_neg n0, e, show gB (b01 (exQ n s i n)) = some () from if_pos (b01_01 _)]
  · refine W_thr (k := 1) (by decide) ?_ hC b ⟨0, _, ?_, fl hD 1⟩
    · simp only [f_L_isExtreme, f_X3_isExtreme, o_0, Option.bind_some, rp_n hC.1 hx, bindT, if_true]
    · simp only [f_X4_isExtreme, o_61, Option.bind_some, m_noP hn h0 hx, if_true, m_fails, bind2]
