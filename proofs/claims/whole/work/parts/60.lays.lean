/-! the reference's layout -/
def mE (n a b c d : Nat) : List (List Nat) := (List.range' (d + 1) (n - (d + 1))).flatMap fun e => if a = e then [] else [[a, b, c, d, e]]
def mD (n a b c : Nat) : List (List Nat) := (List.range' (c + 1) (n - (c + 1))).flatMap fun d => if a = d then [] else mE n a b c d
def mC (n a b : Nat) : List (List Nat) := (List.range' (b + 1) (n - (b + 1))).flatMap fun c => if a = c then [] else mD n a b c
def mB (n a : Nat) : List (List Nat) := (List.range' 0 n).flatMap fun b => if a = b then [] else mC n a b
def mA (n : Nat) : List (List Nat) := (List.range' 0 n).flatMap fun a => mB n a
theorem mA_e {n : Nat} (hn : n38 n) : mA n = rels n := n38_cases (P := fun n => mA n = rels n) (by decide +kernel) hn
/-- what the reference's loop over relations keeps -/
def kN (m0 m1 : Mem) : Prop := fN m0 m1 ∧ (∀ x, x ≠ 61 → x ≠ 68 → m1.I x = m0.I x) ∧ m1.I 61 9 = m0.I 61 9
theorem kN_tr {m m1 m2 : Mem} (h : kN m m1) (h2 : kN m1 m2) : kN m m2 := ⟨fN_tr h.1 h2.1, fun x a b => (h2.2.1 x a b).trans (h.2.1 x a b), h2.2.2.trans h.2.2⟩
theorem m_laysR {n : Nat} (hn : n38 n) {m0 : Mem} (h0 : m0.I 62 0 = nI n) : ∃ m1, l_X4_lays_136 61 (nI n) FU 0 (HH (m0.sI 61 11 0)) = some (HH m1) ∧ RRm (rels n) m1 ∧ kN m0 m1 := by
  have h8 := hn.2
  have hB : (mA n).length ≤ 280 := by rw [mA_e hn]; exact nR_le hn
  have S0 : RRm [] (m0.sI 61 11 0) ∧ kN m0 (m0.sI 61 11 0) := ⟨⟨rfl, fun r w hr => absurd hr (Nat.not_lt_zero r)⟩, ⟨Fr_sI (Fr_rf _ m0) (Or.inl rfl), fun k _ k11 => by rw [sI_at, if_neg k11]⟩, fun x x1 _ => by rw [sI_I, if_neg x1], by rw [sI_at, if_neg (by omega)]⟩
  have inE : ∀ a b c d, a < n → d < n → a ≠ d → ∀ m1 l, (RRm l m1 ∧ kN m0 m1) → (l ++ mE n a b c d).length ≤ 280 → ∃ m2, l_X4_laysFrom_47 61 (nI a) (nI b) (nI n) (nI c) (nI d) FU (nI (d + 1)) (HH m1) = some (HH m2) ∧ RRm (l ++ mE n a b c d) m2 ∧ kN m0 m2 := by
    intro a b c d ha hd nad m1 l hR hlen
    refine loopA (α := List Nat) (fun fuel x h => l_X4_laysFrom_47 61 (nI a) (nI b) (nI n) (nI c) (nI d) fuel x h) n 280 (d + 1) (fun e => if a = e then [] else [[a, b, c, d, e]]) (fun l m1 => RRm l m1 ∧ kN m0 m1) ?_ ?_ (n - (d + 1)) (d + 1) m1 l FU (Nat.le_refl _) (by omega) (FUx (by omega)) hR hlen
    · intro fuel m1 l hR
      simp (disch := omega) only [l_X4_laysFrom_47, leN, if_pos (Nat.le_refl n)]
    · intro fuel e m1 l hlo he hR hlen
      have hlen := len_snoc hlen
      rw [l_X4_laysFrom_47, if_neg (show ¬ nI n ≤ nI e from fun q => by rw [nI_leI (by omega) (by omega)] at q; omega), if_neg (fun q => nad ((ne_of hn ha hd).mp q))]
      by_cases c4 : a = e
      · rw [if_pos (by rw [c4]), if_pos c4, List.append_nil, Option.bind_some, add_1]
        exact ⟨m1, rfl, hR⟩
      · rw [if_neg (fun q => c4 ((ne_of hn ha he).mp q)), if_neg c4]
        rw [if_neg c4] at hlen
        have hlen : l.length + 1 ≤ 280 := hlen
        obtain ⟨m2, e2, R2, f2, z2, y2⟩ := m_addR hR.1 (by omega) a b c d e
        refine ⟨m2, ?_, R2, kN_tr hR.2 ⟨f2, z2, y2⟩⟩
        rw [e2, Option.bind_some, add_1]
  have inD : ∀ a b c, a < n → c < n → a ≠ c → ∀ m1 l, (RRm l m1 ∧ kN m0 m1) → (l ++ mD n a b c).length ≤ 280 → ∃ m2, l_X4_laysFrom_29 61 (nI a) (nI b) (nI n) (nI c) FU (nI (c + 1)) (HH m1) = some (HH m2) ∧ RRm (l ++ mD n a b c) m2 ∧ kN m0 m2 := by
    intro a b c ha hc nac m1 l hR hlen
    refine loopA (α := List Nat) (fun fuel x h => l_X4_laysFrom_29 61 (nI a) (nI b) (nI n) (nI c) fuel x h) n 280 (c + 1) (fun d => if a = d then [] else mE n a b c d) (fun l m1 => RRm l m1 ∧ kN m0 m1) ?_ ?_ (n - (c + 1)) (c + 1) m1 l FU (Nat.le_refl _) (by omega) (FUx (by omega)) hR hlen
    · intro fuel m1 l hR
      simp (disch := omega) only [l_X4_laysFrom_29, leN, if_pos (Nat.le_refl n)]
    · intro fuel d m1 l hlo hd hR hlen
      rw [l_X4_laysFrom_29, if_neg (show ¬ nI n ≤ nI d from fun q => by rw [nI_leI (by omega) (by omega)] at q; omega), if_neg (fun q => nac ((ne_of hn ha hc).mp q)), add_1]
      by_cases c4 : a = d
      · rw [if_pos c4, List.append_nil]
        refine ⟨m1, ?_, hR⟩
        have stop : l_X4_laysFrom_47 61 (nI a) (nI b) (nI n) (nI c) (nI d) FU (nI (d + 1)) (HH m1) = some (HH m1) := by
          rw [show FU = 3999999 + 1 from rfl, l_X4_laysFrom_47, if_pos (show nI a = nI d by rw [c4])]
          split <;> rfl
        rw [stop, Option.bind_some]
      · rw [if_neg c4] at hlen ⊢
        obtain ⟨m2, e2, R2⟩ := inE a b c d ha hd c4 m1 l hR hlen
        refine ⟨m2, ?_, R2⟩
        rw [e2, Option.bind_some]
  have inC : ∀ a b, a < n → b < n → a ≠ b → ∀ m1 l, (RRm l m1 ∧ kN m0 m1) → (l ++ mC n a b).length ≤ 280 → ∃ m2, l_X4_laysFrom_12 61 (nI a) (nI b) (nI n) FU (nI (b + 1)) (HH m1) = some (HH m2) ∧ RRm (l ++ mC n a b) m2 ∧ kN m0 m2 := by
    intro a b ha hb nab m1 l hR hlen
    refine loopA (α := List Nat) (fun fuel x h => l_X4_laysFrom_12 61 (nI a) (nI b) (nI n) fuel x h) n 280 (b + 1) (fun c => if a = c then [] else mD n a b c) (fun l m1 => RRm l m1 ∧ kN m0 m1) ?_ ?_ (n - (b + 1)) (b + 1) m1 l FU (Nat.le_refl _) (by omega) (FUx (by omega)) hR hlen
    · intro fuel m1 l hR
      simp (disch := omega) only [l_X4_laysFrom_12, leN, if_pos (Nat.le_refl n)]
    · intro fuel c m1 l hlo hc hR hlen
      rw [l_X4_laysFrom_12, if_neg (show ¬ nI n ≤ nI c from fun q => by rw [nI_leI (by omega) (by omega)] at q; omega), if_neg (fun q => nab ((ne_of hn ha hb).mp q)), add_1]
      by_cases c4 : a = c
      · rw [if_pos c4, List.append_nil]
        refine ⟨m1, ?_, hR⟩
        have stop : l_X4_laysFrom_29 61 (nI a) (nI b) (nI n) (nI c) FU (nI (c + 1)) (HH m1) = some (HH m1) := by
          rw [show FU = 3999999 + 1 from rfl, l_X4_laysFrom_29, if_pos (show nI a = nI c by rw [c4])]
          split <;> rfl
        rw [stop, Option.bind_some]
      · rw [if_neg c4] at hlen ⊢
        obtain ⟨m2, e2, R2⟩ := inD a b c ha hc c4 m1 l hR hlen
        refine ⟨m2, ?_, R2⟩
        rw [e2, Option.bind_some]
  have inB : ∀ a, a < n → ∀ m1 l, (RRm l m1 ∧ kN m0 m1) → (l ++ mB n a).length ≤ 280 → ∃ m2, l_X4_lays_143 61 (nI n) (nI a) FU 0 (HH m1) = some (HH m2) ∧ RRm (l ++ mB n a) m2 ∧ kN m0 m2 := by
    intro a ha m1 l hR hlen
    refine loopA (α := List Nat) (fun fuel x h => l_X4_lays_143 61 (nI n) (nI a) fuel x h) n 280 0 (fun b => if a = b then [] else mC n a b) (fun l m1 => RRm l m1 ∧ kN m0 m1) ?_ ?_ n 0 m1 l FU (Nat.le_refl _) (by omega) (FUx (by omega)) hR hlen
    · intro fuel m1 l hR
      simp (disch := omega) only [l_X4_lays_143, leN, if_pos (Nat.le_refl n)]
    · intro fuel b m1 l hlo hb hR hlen
      have ea : aI (HH m1) 62 0 = some (nI n) := (r_62 m1 (i := 0) (by omega)).trans (by rw [hR.2.2.1 62 (by omega) (by omega), h0])
      rw [l_X4_lays_143, if_neg (show ¬ nI n ≤ nI b from fun q => by rw [nI_leI (by omega) (by omega)] at q; omega), add_1]
      unfold f_X4_laysFrom
      rw [o_61, Option.bind_some, g_61_0, Option.bind_some, ea, Option.bind_some, add_1]
      by_cases c4 : a = b
      · rw [if_pos c4, List.append_nil]
        refine ⟨m1, ?_, hR⟩
        have stop : l_X4_laysFrom_12 61 (nI a) (nI b) (nI n) FU (nI (b + 1)) (HH m1) = some (HH m1) := by
          rw [show FU = 3999999 + 1 from rfl, l_X4_laysFrom_12, if_pos (show nI a = nI b by rw [c4])]
          split <;> rfl
        rw [stop, Option.bind_some, Option.bind_some]
      · rw [if_neg c4] at hlen ⊢
        obtain ⟨m2, e2, R2⟩ := inC a b ha hb c4 m1 l hR hlen
        refine ⟨m2, ?_, R2⟩
        rw [e2, Option.bind_some, Option.bind_some]
  have go : ∃ m1, l_X4_lays_136 61 (nI n) FU (nI 0) (HH (m0.sI 61 11 0)) = some (HH m1) ∧ RRm ([] ++ mA n) m1 ∧ kN m0 m1 := by
    refine loopA (α := List Nat) (fun fuel x h => l_X4_lays_136 61 (nI n) fuel x h) n 280 0 (fun a => mB n a) (fun l m1 => RRm l m1 ∧ kN m0 m1) ?_ ?_ n 0 (m0.sI 61 11 0) [] FU (Nat.le_refl _) (by omega) (FUx (by omega)) S0 (by show ([] ++ mA n).length ≤ 280; simpa using hB)
    · intro fuel m1 l hR
      simp (disch := omega) only [l_X4_lays_136, leN, if_pos (Nat.le_refl n)]
    · intro fuel a m1 l hlo ha hR hlen
      obtain ⟨m2, e2, R2⟩ := inB a ha m1 l hR hlen
      refine ⟨m2, ?_, R2⟩
      simp (disch := omega) only [l_X4_lays_136, Option.bind_some, leN, if_neg (show ¬ n ≤ a by omega), add_1, e2]
  rw [List.nil_append, mA_e hn] at go
  exact go
theorem m_lays {n : Nat} (hn : n38 n) {m : Mem} (h0 : m.I 62 0 = nI n) : ∃ m1, f_X4_lays 61 (HH m) = some (HH m1) ∧ LM n m1 ∧ fN m m1 := by
  have h8 := hn.2
  obtain ⟨m1, e1, R1, f1⟩ := m_laysT hn m
  have h01 : m1.I 62 0 = nI n := by rw [(f1.1.1 62 (by unfold cN; omega)).1]; exact h0
  obtain ⟨m2, e2, R2, f2, z2, y2⟩ := m_laysR hn h01
  have ea : aI (HH m) 62 0 = some (nI n) := (r_62 m (i := 0) (by omega)).trans (by rw [h0])
  refine ⟨m2, ?_, ⟨?_, R2.1, ?_, ?_, fun r w hr hw => R2.2 r w hr hw⟩, fN_tr f1 f2⟩
  · simp only [f_X4_lays, o_0, g_0_0, g_0_1, g_0_2, g_0_3, g_0_4, p_0_4, g_0_5, g_0_6, g_0_7, g_0_8, g_0_9, g_0_10, g_0_11, o_1, g_1_0, p_1_0, g_1_1, p_1_1, g_1_2, p_1_2, g_1_3, g_1_4, g_1_5, g_1_6, g_1_7, g_1_8, g_1_9, r_2, w_2, r_3, w_3, r_4, w_4, r_5, w_5, r_6, w_6, r_7, w_7, r_8, w_8, o_9, g_9_0, p_9_0, g_9_1, p_9_1, g_9_2, p_9_2, g_9_3, g_9_4, g_9_5, g_9_6, g_9_7, g_9_8, g_9_9, r_10, w_10, r_11, w_11, r_12, w_12, r_13, w_13, r_14, w_14, r_15, w_15, r_16, w_16, o_17, g_17_0, g_17_1, p_17_1, g_17_2, g_17_3, g_17_4, p_17_4, r_18, w_18, r_19, w_19, r_20, w_20, r_22, w_22, r_23, w_23, r_24, w_24, r_25, w_25, r_26, w_26, r_27, w_27, r_28, w_28, o_29, g_29_0, p_29_0, g_29_1, p_29_1, g_29_2, p_29_2, g_29_3, g_29_4, g_29_5, g_29_6, g_29_7, g_29_8, g_29_9, r_30, w_30, r_31, w_31, r_32, w_32, r_33, w_33, r_34, w_34, r_35, w_35, r_36, w_36, o_37, g_37_0, p_37_0, g_37_1, p_37_1, g_37_2, p_37_2, g_37_3, g_37_4, g_37_5, g_37_6, g_37_7, g_37_8, g_37_9, r_38, w_38, r_39, w_39, r_40, w_40, r_41, w_41, r_42, w_42, r_43, w_43, r_44, w_44, o_45, g_45_0, p_45_0, g_45_1, p_45_1, g_45_2, p_45_2, g_45_3, g_45_4, g_45_5, g_45_6, g_45_7, g_45_8, g_45_9, r_46, w_46, r_47, w_47, r_48, w_48, r_49, w_49, r_50, w_50, r_51, w_51, r_52, w_52, o_53, g_53_0, p_53_0, g_53_1, p_53_1, g_53_2, p_53_2, g_53_3, g_53_4, g_53_5, g_53_6, g_53_7, g_53_8, g_53_9, r_54, w_54, r_55, w_55, r_56, w_56, r_57, w_57, r_58, w_58, r_59, w_59, r_60, w_60, o_61, g_61_0, g_61_1, g_61_2, g_61_3, p_61_3, g_61_4, g_61_5, p_61_5, g_61_6, p_61_6, g_61_7, g_61_8, g_61_9, p_61_9, g_61_10, g_61_11, p_61_11, g_61_12, p_61_12, g_61_13, g_61_14, g_61_15, g_61_16, g_61_17, g_61_18, g_61_19, g_61_20, p_61_20, g_61_21, p_61_21, g_61_22, g_61_23, p_61_23, r_62, w_62, r_63, w_63, r_64, w_64, r_65, w_65, r_66, w_66, r_67, w_67, r_68, w_68, r_69, w_69, r_70, w_70, r_71, w_71, r_72, w_72, r_73, w_73, r_74, w_74, r_75, w_75, r_76, w_76, r_77, w_77, Option.bind_some, ea, e1, e2]
  · rw [y2]
    exact R1.1
  · intro t w ht hw
    rw [z2 66 (by omega) (by omega)]
    exact R1.2.1 t w ht hw
  · intro i j k h1 h2 h3
    obtain ⟨q1, q2⟩ := nu_lx hn h1 h2 h3
    rw [z2 67 (by omega) (by omega), q1]
    exact R1.2.2 i j k h1 h2 (by omega) q2
theorem up_N {m m1 : Mem} (f : fN m m1) : upM m m1 := upM_fr f.1 (fun a h => by unfold cN at h; omega)
/-- the reference's picture after laying anew -/
theorem DD_N {n n' : Nat} {s : Nat → Int32} {q : Nat} {P : Nat → Nat → Int32} {tl : Nat} {tx : Nat → Int32} {m m1 : Mem} (h : DD n s q P tl tx m) (f : fN m m1) (hL : LM n' m1) : DD n' s q P tl tx m1 := by
  obtain ⟨h1, h2, h3, h4, h5, h6⟩ := h
  refine ⟨hL, ?_, ?_, ?_, ?_, ?_⟩
  · rw [(f.1.1 62 (by unfold cN; omega)).1]
    exact h2
  · rw [f.2 3 (by omega) (by omega)]
    exact h3
  · rw [(f.1.1 63 (by unfold cN; omega)).1]
    exact h4
  · rw [f.2 5 (by omega) (by omega)]
    exact h5
  · rw [(f.1.1 65 (by unfold cN; omega)).1]
    exact h6
