/-! commands, and how the class parses -/
def nmE (tl : Nat) (tx : Nat → Int32) : Nat → Nat → Nat × Nat
  | 0, a => (1, a)
  | d + 1, a => if a < tl ∧ (¬ tx a < 97 ∧ ¬ 104 < tx a) then nmE tl tx d (a + 1) else (0, a)
theorem nmE_s (tl : Nat) (tx : Nat → Int32) (d a : Nat) : nmE tl tx (d + 1) a = if a < tl ∧ (¬ tx a < 97 ∧ ¬ 104 < tx a) then nmE tl tx d (a + 1) else (0, a) := rfl
theorem nmE_b {tl : Nat} {tx : Nat → Int32} : ∀ d a, a ≤ (nmE tl tx d a).2 ∧ (a ≤ tl → (nmE tl tx d a).2 ≤ tl) ∧ ((nmE tl tx d a).1 = 0 ∨ (nmE tl tx d a).1 = 1) := by
  intro d
  induction d with
  | zero => intro a; exact ⟨Nat.le_refl _, id, Or.inr rfl⟩
  | succ d ih =>
    intro a
    rw [nmE_s]
    by_cases c : a < tl ∧ (¬ tx a < 97 ∧ ¬ 104 < tx a)
    · rw [if_pos c]
      obtain ⟨h1, h2, h3⟩ := ih (a + 1)
      exact ⟨by omega, fun _ => h2 (by omega), h3⟩
    · rw [if_neg c]
      exact ⟨Nat.le_refl _, id, Or.inl rfl⟩
/-- how the class tells an index or a fault -/
def enc (r : Nat × Nat) : Int32 := if r.1 = 1 then nI r.2 else -1 - nI r.2
theorem enc_0 (x : Nat) : enc (0, x) = -1 - nI x := if_neg (show ¬ (0 : Nat) = 1 by decide)
theorem enc_1 (x : Nat) : enc (1, x) = nI x := if_pos (show (1 : Nat) = 1 from rfl)
theorem no01 {x : Nat} {q : Prop} (h : ((0 : Nat), x).1 = 1) : q := absurd (show (0 : Nat) = 1 from h) (by decide)
def nmC (tl : Nat) (tx : Nat → Int32) (e : Nat) : Nat × Nat := if sp tl tx e = e then (0, e) else nmE tl tx 3 (sp tl tx e)
/-- behind the word and the names -/
def hd (tl : Nat) (tx : Nat → Int32) (p : Nat) : Nat × Nat := if wd tx p (le_ tl tx p) < 4 then nmC tl tx (le_ tl tx p) else (1, le_ tl tx p)
def tlC (tl : Nat) (tx : Nat → Int32) (y : Nat) : Nat × Nat := if sp tl tx y < tl ∧ tx (sp tl tx y) = 59 then (1, sp tl tx y + 1) else (0, sp tl tx y)
/-- a command from p: 1 and the index behind it, or 0 and the fault -/
def cmd (tl : Nat) (tx : Nat → Int32) (p : Nat) : Nat × Nat := if wd tx p (le_ tl tx p) = 6 then (0, p) else if (hd tl tx p).1 = 0 then (0, (hd tl tx p).2) else tlC tl tx (hd tl tx p).2
theorem nmC_b {tl : Nat} {tx : Nat → Int32} (e : Nat) : e ≤ (nmC tl tx e).2 ∧ (e ≤ tl → (nmC tl tx e).2 ≤ tl) ∧ ((nmC tl tx e).1 = 0 ∨ (nmC tl tx e).1 = 1) := by
  unfold nmC
  by_cases c : sp tl tx e = e
  · rw [if_pos c]
    exact ⟨Nat.le_refl _, id, Or.inl rfl⟩
  · rw [if_neg c]
    obtain ⟨h1, h2, h3⟩ := nmE_b (tl := tl) (tx := tx) 3 (sp tl tx e)
    obtain ⟨g1, g2⟩ := spE_b (tl := tl) (tx := tx) 121 e
    have g1 : e ≤ sp tl tx e := g1
    have g2 : e ≤ tl → sp tl tx e ≤ tl := g2
    exact ⟨by omega, fun h => h2 (g2 h), h3⟩
theorem hd_b {tl : Nat} {tx : Nat → Int32} (p : Nat) : p ≤ (hd tl tx p).2 ∧ (p ≤ tl → (hd tl tx p).2 ≤ tl) ∧ ((hd tl tx p).1 = 0 ∨ (hd tl tx p).1 = 1) := by
  obtain ⟨g1, g2⟩ := leE_b (tl := tl) (tx := tx) 121 p
  have g1 : p ≤ le_ tl tx p := g1
  have g2 : p ≤ tl → le_ tl tx p ≤ tl := g2
  unfold hd
  by_cases c : wd tx p (le_ tl tx p) < 4
  · rw [if_pos c]
    obtain ⟨h1, h2, h3⟩ := nmC_b (tl := tl) (tx := tx) (le_ tl tx p)
    exact ⟨by omega, fun h => h2 (g2 h), h3⟩
  · rw [if_neg c]
    exact ⟨g1, g2, Or.inr rfl⟩
theorem cmd_b {tl : Nat} {tx : Nat → Int32} (p : Nat) : p ≤ (cmd tl tx p).2 ∧ (p ≤ tl → (cmd tl tx p).2 ≤ tl) ∧ ((cmd tl tx p).1 = 0 ∨ ((cmd tl tx p).1 = 1 ∧ p < (cmd tl tx p).2)) := by
  obtain ⟨h1, h2, h3⟩ := hd_b (tl := tl) (tx := tx) p
  obtain ⟨g1, g2⟩ := spE_b (tl := tl) (tx := tx) 121 (hd tl tx p).2
  have g1 : (hd tl tx p).2 ≤ sp tl tx (hd tl tx p).2 := g1
  have g2 : (hd tl tx p).2 ≤ tl → sp tl tx (hd tl tx p).2 ≤ tl := g2
  unfold cmd tlC
  by_cases c : wd tx p (le_ tl tx p) = 6
  · rw [if_pos c]
    exact ⟨Nat.le_refl _, id, Or.inl rfl⟩
  · rw [if_neg c]
    by_cases c2 : (hd tl tx p).1 = 0
    · rw [if_pos c2]
      exact ⟨h1, h2, Or.inl rfl⟩
    · rw [if_neg c2]
      by_cases c3 : sp tl tx (hd tl tx p).2 < tl ∧ tx (sp tl tx (hd tl tx p).2) = 59
      · rw [if_pos c3]
        exact ⟨by show p ≤ sp tl tx (hd tl tx p).2 + 1; omega, fun _ => by show sp tl tx (hd tl tx p).2 + 1 ≤ tl; omega, Or.inr ⟨rfl, by show p < sp tl tx (hd tl tx p).2 + 1; omega⟩⟩
      · rw [if_neg c3]
        exact ⟨by show p ≤ sp tl tx (hd tl tx p).2; omega, fun h => g2 (h2 h), Or.inl rfl⟩
theorem neg1 : ∀ x, x < 201 → ¬ (0 : Int32) ≤ -1 - nI x ∧ (-1 : Int32) - (-1 - nI x) = nI x := by decide +kernel
theorem wd_le (tx : Nat → Int32) (p e : Nat) : wd tx p e ≤ 6 := by
  unfold wd
  (repeat' split) <;> omega
section Parse
variable {tl : Nat} {tx : Nat → Int32}
theorem CT_f {m m1 : Mem} (h : CT_ tl tx m) (e1 : m1.I 17 1 = m.I 17 1) (e2 : m1.I 18 = m.I 18) : CT_ tl tx m1 := by
  unfold CT_
  rw [e1, e2]
  exact h
theorem c_nm (ht : tl ≤ 120) {c : Nat} (hc : c < 120) : ∀ d k a (m : Mem) fuel, k + d = 3 → d < fuel → a ≤ tl → CT_ tl tx m → m.I 17 4 = nI c → ∃ m1, l_X1_behindNames_18 17 fuel (nI a) (nI k) (HH m) = some (if (nmE tl tx d a).1 = 1 then .inl (enc (nmE tl tx d a), HH m1) else .inr (enc (nmE tl tx d a), HH m1)) ∧
    (∀ j, j < c * 3 + k → m1.I 20 j = m.I 20 j) ∧ ((nmE tl tx d a).1 = 1 → ∀ x, x < d → m1.I 20 (c * 3 + k + x) = tx (a + x) - 97) ∧ Fr (cC 20) m m1 := by
  intro d
  induction d with
  | zero =>
    intro k a m fuel hk hf ha hT h4
    obtain ⟨f, rfl⟩ : ∃ f, fuel = f + 1 := ⟨fuel - 1, by omega⟩
    have e : k = 3 := by omega
    subst e
    refine ⟨m, ?_, fun _ _ => rfl, fun _ x hx => absurd hx (Nat.not_lt_zero x), Fr_rf _ m⟩
    rw [l_X1_behindNames_18, if_pos (show (3 : Int32) ≤ nI 3 by decide)]
    rfl
  | succ d ih =>
    intro k a m fuel hk hf ha hT h4
    obtain ⟨f, rfl⟩ : ∃ f, fuel = f + 1 := ⟨fuel - 1, by omega⟩
    have h3 : ¬ (3 : Int32) ≤ nI k := fun q => by rw [le3 (by omega)] at q; omega
    have flt : nmE tl tx (d + 1) a = (0, a) → ∃ m2, (some (.inr (-1 - nI a, HH m)) : Option ((Int32 × Hp) ⊕ (Int32 × Hp))) = some (if (nmE tl tx (d + 1) a).1 = 1 then .inl (enc (nmE tl tx (d + 1) a), HH m2) else .inr (enc (nmE tl tx (d + 1) a), HH m2)) ∧
        (∀ j, j < c * 3 + k → m2.I 20 j = m.I 20 j) ∧ ((nmE tl tx (d + 1) a).1 = 1 → ∀ x, x < d + 1 → m2.I 20 (c * 3 + k + x) = tx (a + x) - 97) ∧ Fr (cC 20) m m2 := by
      intro e
      rw [e]
      exact ⟨m, by rw [if_neg (show ¬ ((0 : Nat), a).1 = 1 from fun h => no01 h), enc_0], fun _ _ => rfl, fun h => no01 h, Fr_rf _ m⟩
    by_cases ca : a < tl
    · by_cases c2 : tx a < 97
      · have e : nmE tl tx (d + 1) a = (0, a) := by rw [nmE_s, if_neg (fun h => h.2.1 c2)]
        obtain ⟨m2, h⟩ := flt e
        refine ⟨m2, ?_, h.2⟩
        rw [← h.1]
        simp only [l_X1_behindNames_18, if_neg h3, g_17_1, g_17_0, Option.bind_some, hT.1, if_neg (nle_of (show tl < 2 ^ 31 by omega) ca), r_18 m (show a < 120 by omega), hT.2 a ca, if_pos c2, f_X1_tellFault]
      · by_cases c3 : 104 < tx a
        · have e : nmE tl tx (d + 1) a = (0, a) := by rw [nmE_s, if_neg (fun h => h.2.2 c3)]
          obtain ⟨m2, h⟩ := flt e
          refine ⟨m2, ?_, h.2⟩
          rw [← h.1]
          simp only [l_X1_behindNames_18, if_neg h3, g_17_1, g_17_0, Option.bind_some, hT.1, if_neg (nle_of (show tl < 2 ^ 31 by omega) ca), r_18 m (show a < 120 by omega), hT.2 a ca, if_neg c2, if_neg (nle_lt c3), f_X1_tellFault]
        · have e : nmE tl tx (d + 1) a = nmE tl tx d (a + 1) := by rw [nmE_s, if_pos ⟨ca, c2, c3⟩]
          have hT1 : CT_ tl tx (m.sI 20 (c * 3 + k) (tx a - 97)) := CT_f hT rfl rfl
          obtain ⟨m1, e1, k1, v1, f1⟩ := ih (k + 1) (a + 1) (m.sI 20 (c * 3 + k) (tx a - 97)) f (by omega) (by omega) (by omega) hT1 h4
          rw [e]
          refine ⟨m1, ?_, fun j hj => ?_, fun h x hx => ?_, Fr_tr (Fr_sI (Fr_rf _ m) rfl) f1⟩
          · rw [← e1]
            simp (disch := omega) only [l_X1_behindNames_18, if_neg h3, o_0, g_0_0, g_0_1, g_0_2, g_0_3, g_0_4, p_0_4, g_0_5, g_0_6, g_0_7, g_0_8, g_0_9, g_0_10, g_0_11, o_1, g_1_0, p_1_0, g_1_1, p_1_1, g_1_2, p_1_2, g_1_3, g_1_4, g_1_5, g_1_6, g_1_7, g_1_8, g_1_9, r_2, w_2, r_3, w_3, r_4, w_4, r_5, w_5, r_6, w_6, r_7, w_7, r_8, w_8, o_9, g_9_0, p_9_0, g_9_1, p_9_1, g_9_2, p_9_2, g_9_3, g_9_4, g_9_5, g_9_6, g_9_7, g_9_8, g_9_9, r_10, w_10, r_11, w_11, r_12, w_12, r_13, w_13, r_14, w_14, r_15, w_15, r_16, w_16, o_17, g_17_0, g_17_1, p_17_1, g_17_2, g_17_3, g_17_4, p_17_4, r_18, w_18, r_19, w_19, r_20, w_20, r_22, w_22, r_23, w_23, r_24, w_24, r_25, w_25, r_26, w_26, r_27, w_27, r_28, w_28, o_29, g_29_0, p_29_0, g_29_1, p_29_1, g_29_2, p_29_2, g_29_3, g_29_4, g_29_5, g_29_6, g_29_7, g_29_8, g_29_9, r_30, w_30, r_31, w_31, r_32, w_32, r_33, w_33, r_34, w_34, r_35, w_35, r_36, w_36, o_37, g_37_0, p_37_0, g_37_1, p_37_1, g_37_2, p_37_2, g_37_3, g_37_4, g_37_5, g_37_6, g_37_7, g_37_8, g_37_9, r_38, w_38, r_39, w_39, r_40, w_40, r_41, w_41, r_42, w_42, r_43, w_43, r_44, w_44, o_45, g_45_0, p_45_0, g_45_1, p_45_1, g_45_2, p_45_2, g_45_3, g_45_4, g_45_5, g_45_6, g_45_7, g_45_8, g_45_9, r_46, w_46, r_47, w_47, r_48, w_48, r_49, w_49, r_50, w_50, r_51, w_51, r_52, w_52, o_53, g_53_0, p_53_0, g_53_1, p_53_1, g_53_2, p_53_2, g_53_3, g_53_4, g_53_5, g_53_6, g_53_7, g_53_8, g_53_9, r_54, w_54, r_55, w_55, r_56, w_56, r_57, w_57, r_58, w_58, r_59, w_59, r_60, w_60, o_61, g_61_0, g_61_1, g_61_2, g_61_3, p_61_3, g_61_4, g_61_5, p_61_5, g_61_6, p_61_6, g_61_7, g_61_8, g_61_9, p_61_9, g_61_10, g_61_11, p_61_11, g_61_12, p_61_12, g_61_13, g_61_14, g_61_15, g_61_16, g_61_17, g_61_18, g_61_19, g_61_20, p_61_20, g_61_21, p_61_21, g_61_22, g_61_23, p_61_23, r_62, w_62, r_63, w_63, r_64, w_64, r_65, w_65, r_66, w_66, r_67, w_67, r_68, w_68, r_69, w_69, r_70, w_70, r_71, w_71, r_72, w_72, r_73, w_73, r_74, w_74, r_75, w_75, r_76, w_76, r_77, w_77, Option.bind_some, hT.1, if_neg (nle_of (show tl < 2 ^ 31 by omega) ca), hT.2 a ca, if_neg c2, if_pos (le_nlt c3), h4, show nI c * (3 : Int32) = nI (c * 3) from pk_mul c 3, nI_add, add1]
          · rw [k1 j (by omega), sI_at, if_neg (by omega)]
          · by_cases x0 : x = 0
            · subst x0
              rw [Nat.add_zero, Nat.add_zero, k1 _ (by omega), sI_at, if_pos rfl]
            · have := v1 h (x - 1) (by omega)
              rw [show c * 3 + (k + 1) + (x - 1) = c * 3 + k + x by omega, show a + 1 + (x - 1) = a + x by omega] at this
              exact this
    · have e : nmE tl tx (d + 1) a = (0, a) := by rw [nmE_s, if_neg (fun h => ca h.1)]
      obtain ⟨m2, h⟩ := flt e
      refine ⟨m2, ?_, h.2⟩
      rw [← h.1]
      simp only [l_X1_behindNames_18, if_neg h3, g_17_1, Option.bind_some, hT.1, if_pos (le_of (show a < 2 ^ 31 by omega) (show tl ≤ a by omega)), f_X1_tellFault]
theorem c_names (ht : tl ≤ 120) {c : Nat} (hc : c < 120) {e : Nat} {m : Mem} (he : e ≤ tl) (hT : CT_ tl tx m) (h4 : m.I 17 4 = nI c) : ∃ m1, f_X1_behindNames 17 (nI e) (HH m) = some (enc (nmC tl tx e), HH m1) ∧
    (∀ j, j < c * 3 → m1.I 20 j = m.I 20 j) ∧ ((nmC tl tx e).1 = 1 → ∀ x, x < 3 → m1.I 20 (c * 3 + x) = tx (sp tl tx e + x) - 97) ∧ Fr (cC 20) m m1 := by
  have g1 : e ≤ sp tl tx e := (spE_b (tl := tl) (tx := tx) 121 e).1
  have g3 : sp tl tx e ≤ tl := (spE_b (tl := tl) (tx := tx) 121 e).2 he
  have q : (nI (sp tl tx e) = nI e) ↔ sp tl tx e = e := nI_eq (by omega) (by omega)
  unfold nmC
  by_cases ce : sp tl tx e = e
  · rw [if_pos ce]
    refine ⟨m, ?_, fun _ _ => rfl, fun h => no01 h, Fr_rf _ m⟩
    simp only [f_X1_behindNames, o_17, Option.bind_some, c_spaces hT ht (show e ≤ 200 by omega), if_pos (q.mpr ce), f_X1_tellFault, enc_0]
  · rw [if_neg ce]
    obtain ⟨m1, e1, k1, v1, f1⟩ := c_nm ht hc 3 0 (sp tl tx e) m FU (by omega) (FUx (by omega)) g3 hT h4
    refine ⟨m1, ?_, k1, v1, f1⟩
    simp only [f_X1_behindNames, o_17, Option.bind_some, c_spaces hT ht (show e ≤ 200 by omega), if_neg (fun h => ce (q.mp h))]
    rw [show l_X1_behindNames_18 17 FU (nI (sp tl tx e)) 0 (HH m) = _ from e1]
    split <;> rfl
def cV (a : Nat) : Prop := a = 19 ∨ a = 20
theorem c_rest (ht : tl ≤ 120) (m1 : Mem) (y : Nat) (hy : y ≤ tl) (hT1 : CT_ tl tx m1) : ((f_X1_behindSpaces 17 (nI y) (HH m1)).bind fun v15 => (fI 1 1 (HH m1) 17).bind fun v16 => if v16 ≤ v15 then (f_X1_tellFault v15).bind fun v18 => some (v18, HH m1) else (fR 1 0 (HH m1) 17).bind fun v19 => (aI (HH m1) v19 v15).bind fun v20 => if v20 = 59 then some (v15 + 1, HH m1) else (f_X1_tellFault v15).bind fun v22 => some (v22, HH m1)) = some (enc (tlC tl tx y), HH m1) := by
  have gg : sp tl tx y ≤ tl := (spE_b (tl := tl) (tx := tx) 121 y).2 hy
  unfold tlC
  rw [c_spaces hT1 ht (show y ≤ 200 by omega), Option.bind_some, g_17_1, Option.bind_some, hT1.1]
  by_cases d1 : sp tl tx y < tl
  · rw [if_neg (nle_of (by omega) d1), g_17_0, Option.bind_some, r_18 m1 (by omega), Option.bind_some, hT1.2 _ d1]
    by_cases d2 : tx (sp tl tx y) = 59
    · rw [if_pos d2, if_pos (And.intro d1 d2), add_1, enc_1]
    · rw [if_neg d2, if_neg (fun h => d2 (And.right h)), enc_0]
      rfl
  · rw [if_pos (le_of (by omega) (by omega)), if_neg (fun h => d1 (And.left h)), enc_0]
    rfl
theorem c_cmd (ht : tl ≤ 120) {c : Nat} (hc : c < 120) {p : Nat} {m : Mem} (hp : p ≤ tl) (hT : CT_ tl tx m) (h4 : m.I 17 4 = nI c) : ∃ m1, f_X1_behindCommand 17 (nI p) (HH m) = some (enc (cmd tl tx p), HH m1) ∧
    (∀ j, j < c → m1.I 19 j = m.I 19 j) ∧ (∀ j, j < c * 3 → m1.I 20 j = m.I 20 j) ∧ ((cmd tl tx p).1 = 1 → m1.I 19 c = nI (wd tx p (le_ tl tx p)) ∧ (wd tx p (le_ tl tx p) < 4 → ∀ x, x < 3 → m1.I 20 (c * 3 + x) = tx (sp tl tx (le_ tl tx p) + x) - 97)) ∧ Fr cV m m1 := by
  have g1 : p ≤ le_ tl tx p := (leE_b (tl := tl) (tx := tx) 121 p).1
  have g3 : le_ tl tx p ≤ tl := (leE_b (tl := tl) (tx := tx) 121 p).2 hp
  have hw6 := wd_le tx p (le_ tl tx p)
  obtain ⟨h1, h2, h3⟩ := hd_b (tl := tl) (tx := tx) p
  have h2 := h2 hp
  have ew := c_word hT ht g1 g3
  have el := c_letters hT ht (show p ≤ 200 by omega)
  by_cases c6 : wd tx p (le_ tl tx p) = 6
  · have ec : cmd tl tx p = (0, p) := by unfold cmd; rw [if_pos c6]
    rw [if_pos c6] at ew
    rw [ec]
    refine ⟨m, ?_, fun _ _ => rfl, fun _ _ => rfl, fun h => no01 h, Fr_rf _ m⟩
    simp only [f_X1_behindCommand, o_17, Option.bind_some, el, ew, if_true, f_X1_tellFault, enc_0]
  · have ec : cmd tl tx p = if (hd tl tx p).1 = 0 then (0, (hd tl tx p).2) else tlC tl tx (hd tl tx p).2 := by unfold cmd; rw [if_neg c6]
    rw [if_neg c6] at ew
    obtain ⟨w, hw⟩ : ∃ w, w = wd tx p (le_ tl tx p) := ⟨_, rfl⟩
    rw [← hw] at ew hw6 c6
    have nw : ¬ nI w = -1 := fun e => by
      have := congrArg Int32.toInt e
      rw [nI_toInt (by omega)] at this
      have k : (-1 : Int32).toInt = -1 := by decide
      omega
    rw [← hw]
    obtain ⟨m0, em0⟩ : ∃ m0, m0 = m.sI 19 c (nI w) := ⟨_, rfl⟩
    have hT1 : CT_ tl tx m0 := by rw [em0]; exact CT_f hT rfl rfl
    have h40 : m0.I 17 4 = nI c := by rw [em0]; exact h4
    have f0 : Fr cV m m0 := by rw [em0]; exact Fr_sI (Fr_rf _ m) (Or.inl rfl)
    have k19 : ∀ j, j < c → m0.I 19 j = m.I 19 j := fun j hj => by rw [em0, sI_at, if_neg (by omega)]
    have v19 : m0.I 19 c = nI w := by rw [em0, sI_at, if_pos rfl]
    have k20 : m0.I 20 = m.I 20 := by rw [em0, sI_I, if_neg (by omega)]
    have w19 : wI (HH m) 19 (nI c) (nI w) = some (HH m0) := by rw [em0]; exact w_19 m hc (nI w)
    have ehn : f_X1_hasNames (nI w) = some (if w < 4 then 1 else 0) := by
      have : ∀ w, w < 6 → f_X1_hasNames (nI w) = some (if w < 4 then 1 else 0) := by decide
      exact this _ (by omega)
    by_cases c4 : w < 4
    · have eh : hd tl tx p = nmC tl tx (le_ tl tx p) := by unfold hd; rw [← hw, if_pos c4]
      obtain ⟨m1, e1, k1, v1, f1⟩ := c_names ht hc g3 hT1 h40
      rw [← eh] at e1 v1
      have f1V : Fr cV m m1 := Fr_tr f0 (Fr_w (d := cV) f1 (fun a h => by unfold cC at h; unfold cV; omega))
      have e19 : m1.I 19 = m0.I 19 := (f1.1 19 (by unfold cC; omega)).1
      have hT2 : CT_ tl tx m1 := CT_f hT1 (by rw [(f1.1 17 (by unfold cC; omega)).1]) (f1.1 18 (by unfold cC; omega)).1
      rw [if_pos c4] at ehn
      refine ⟨m1, ?_, fun j hj => by rw [e19]; exact k19 j hj, fun j hj => by rw [k1 j hj, k20], fun h => ⟨by rw [e19]; exact v19, fun _ => v1 ?_⟩, f1V⟩
      · unfold f_X1_behindCommand
        rw [o_17, Option.bind_some, el, Option.bind_some, ew, Option.bind_some, if_neg nw, g_17_2, Option.bind_some, g_17_4, Option.bind_some, h4, w19, Option.bind_some, ehn, Option.bind_some, if_neg (show ¬ (1 : Int32) = 0 by decide), e1, ec]
        rcases h3 with h0 | h0
        · have eo : enc (hd tl tx p) = -1 - nI (hd tl tx p).2 := if_neg (by omega)
          simp only [bind2]
          rw [if_pos h0, enc_0, eo, if_neg (neg1 _ (by omega)).1]
          rfl
        · have eo : enc (hd tl tx p) = nI (hd tl tx p).2 := if_pos h0
          simp only [bind2]
          rw [if_neg (show ¬ (hd tl tx p).1 = 0 by omega), eo, if_pos (le_nlt (nI_pos (by omega)))]
          exact c_rest ht m1 _ h2 hT2
      · rw [ec] at h
        rcases h3 with h0 | h0
        · rw [if_pos h0] at h
          exact no01 h
        · exact h0
    · have eh : hd tl tx p = (1, le_ tl tx p) := by unfold hd; rw [← hw, if_neg c4]
      rw [if_neg c4] at ehn
      refine ⟨m0, ?_, k19, fun j _ => by rw [k20], fun _ => ⟨v19, fun h => absurd h c4⟩, f0⟩
      unfold f_X1_behindCommand
      rw [o_17, Option.bind_some, el, Option.bind_some, ew, Option.bind_some, if_neg nw, g_17_2, Option.bind_some, g_17_4, Option.bind_some, h4, w19, Option.bind_some, ehn, Option.bind_some, if_pos rfl, ec, eh, if_neg (show ¬ ((1 : Nat), le_ tl tx p).1 = 0 from fun h => absurd (show (1 : Nat) = 0 from h) (by decide))]
      exact c_rest ht m0 _ g3 hT1
end Parse
