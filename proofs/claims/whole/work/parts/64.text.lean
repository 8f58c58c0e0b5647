/-! the script's text -/
def isL (x : Int32) : Prop := ¬ x < 97 ∧ ¬ 122 < x
def isH (x : Int32) : Prop := ¬ x < 97 ∧ ¬ 104 < x
def spE (tl : Nat) (tx : Nat → Int32) : Nat → Nat → Nat
  | 0, p => p
  | d + 1, p => if p < tl ∧ tx p = 32 then spE tl tx d (p + 1) else p
def leE (tl : Nat) (tx : Nat → Int32) : Nat → Nat → Nat
  | 0, p => p
  | d + 1, p => if p < tl ∧ (¬ tx p < 97 ∧ ¬ 122 < tx p) then leE tl tx d (p + 1) else p
theorem spE_s (tl : Nat) (tx : Nat → Int32) (d p : Nat) : spE tl tx (d + 1) p = if p < tl ∧ tx p = 32 then spE tl tx d (p + 1) else p := rfl
theorem leE_s (tl : Nat) (tx : Nat → Int32) (d p : Nat) : leE tl tx (d + 1) p = if p < tl ∧ (¬ tx p < 97 ∧ ¬ 122 < tx p) then leE tl tx d (p + 1) else p := rfl
def sp (tl : Nat) (tx : Nat → Int32) (p : Nat) : Nat := spE tl tx 121 p
def le_ (tl : Nat) (tx : Nat → Int32) (p : Nat) : Nat := leE tl tx 121 p
theorem spE_b {tl : Nat} {tx : Nat → Int32} : ∀ d p, p ≤ spE tl tx d p ∧ (p ≤ tl → spE tl tx d p ≤ tl) := by
  intro d
  induction d with
  | zero => intro p; exact ⟨Nat.le_refl _, id⟩
  | succ d ih =>
    intro p
    rw [spE_s]
    by_cases c : p < tl ∧ tx p = 32
    · rw [if_pos c]
      have := ih (p + 1)
      exact ⟨by omega, fun _ => this.2 (by omega)⟩
    · rw [if_neg c]
      exact ⟨Nat.le_refl _, id⟩
theorem leE_b {tl : Nat} {tx : Nat → Int32} : ∀ d p, p ≤ leE tl tx d p ∧ (p ≤ tl → leE tl tx d p ≤ tl) := by
  intro d
  induction d with
  | zero => intro p; exact ⟨Nat.le_refl _, id⟩
  | succ d ih =>
    intro p
    rw [leE_s]
    by_cases c : p < tl ∧ (¬ tx p < 97 ∧ ¬ 122 < tx p)
    · rw [if_pos c]
      have := ih (p + 1)
      exact ⟨by omega, fun _ => this.2 (by omega)⟩
    · rw [if_neg c]
      exact ⟨Nat.le_refl _, id⟩
/-- words -/
def lnW (w : Nat) : Nat := lenS.getD w 0
def byW (w c : Nat) : Int32 := (bytS.getD w []).getD c 0
def msW (tx : Nat → Int32) (w p : Nat) : Nat := cntN (fun c => ¬ byW w c = tx (p + c)) (lnW w)
def eqW (tx : Nat → Int32) (w p e : Nat) : Nat := if lnW w = e - p ∧ msW tx w p = 0 then 1 else 0
def wd (tx : Nat → Int32) (p e : Nat) : Nat := if eqW tx 0 p e = 1 then 0 else if eqW tx 1 p e = 1 then 1 else if eqW tx 2 p e = 1 then 2 else if eqW tx 3 p e = 1 then 3 else if eqW tx 4 p e = 1 then 4 else if eqW tx 5 p e = 1 then 5 else 6
theorem eqW_01 (tx : Nat → Int32) (w p e : Nat) : eqW tx w p e = 0 ∨ eqW tx w p e = 1 := by
  unfold eqW
  split
  · exact Or.inr rfl
  · exact Or.inl rfl
theorem spell_e : ∀ w, w < 6 → f_X1_spelling (nI w) = some (UInt32.ofNat w) := by decide +kernel
theorem sLen_e : ∀ w, w < 6 → sLen (UInt32.ofNat w) = some (nI (lnW w)) := by decide +kernel
theorem sCh_e : ∀ w, w < 6 → ∀ c, c < 6 → c < lnW w → sCh (UInt32.ofNat w) (nI c) = some (byW w c) := by decide +kernel
theorem lnW_le : ∀ w, w < 6 → lnW w ≤ 6 := by decide
section CText
variable {tl : Nat} {tx : Nat → Int32} {m : Mem}
/-- the class's text -/
def CT_ (tl : Nat) (tx : Nat → Int32) (m : Mem) : Prop := m.I 17 1 = nI tl ∧ ∀ k, k < tl → m.I 18 k = tx k
theorem nle_of {a b : Nat} (hb : b < 2 ^ 31) (h : a < b) : ¬ nI b ≤ nI a := fun q => by rw [nI_leI (by omega) (by omega)] at q; omega
theorem le_of {a b : Nat} (ha : a < 2 ^ 31) (h : b ≤ a) : nI b ≤ nI a := by rw [nI_leI (by omega) (by omega)]; exact h
theorem c_sp (hT : CT_ tl tx m) (ht : tl ≤ 120) : ∀ d p fuel, p ≤ 200 → tl < p + d → d < fuel → l_X1_behindSpaces_2 17 (HH m) fuel (nI p) = some (nI (spE tl tx d p)) := by
  intro d
  induction d with
  | zero =>
    intro p fuel hp hd hf
    obtain ⟨f, rfl⟩ : ∃ f, fuel = f + 1 := ⟨fuel - 1, by omega⟩
    rw [l_X1_behindSpaces_2, g_17_1, Option.bind_some, hT.1, if_pos (le_of (by omega) (by omega))]
    rfl
  | succ d ih =>
    intro p fuel hp hd hf
    obtain ⟨f, rfl⟩ : ∃ f, fuel = f + 1 := ⟨fuel - 1, by omega⟩
    rw [l_X1_behindSpaces_2, g_17_1, Option.bind_some, hT.1, spE_s]
    by_cases c : p < tl
    · rw [if_neg (nle_of (by omega) c), g_17_0, Option.bind_some, r_18 m (by omega), Option.bind_some, hT.2 p c]
      by_cases c2 : tx p = 32
      · rw [if_pos c2, if_pos ⟨c, c2⟩, add1]
        exact ih (p + 1) f (by omega) (by omega) (by omega)
      · rw [if_neg c2, if_neg (fun h => c2 h.2)]
    · rw [if_pos (le_of (by omega) (by omega)), if_neg (fun h => c h.1)]
theorem c_spaces (hT : CT_ tl tx m) (ht : tl ≤ 120) {p : Nat} (hp : p ≤ 200) : f_X1_behindSpaces 17 (nI p) (HH m) = some (nI (sp tl tx p)) := by
  simp only [f_X1_behindSpaces, o_0, g_0_0, g_0_1, g_0_2, g_0_3, g_0_4, g_0_5, g_0_6, g_0_7, g_0_8, g_0_9, g_0_10, g_0_11, o_1, g_1_0, g_1_1, g_1_2, g_1_3, g_1_4, g_1_5, g_1_6, g_1_7, g_1_8, g_1_9, r_2, r_3, r_4, r_5, r_6, r_7, r_8, o_9, g_9_0, g_9_1, g_9_2, g_9_3, g_9_4, g_9_5, g_9_6, g_9_7, g_9_8, g_9_9, r_10, r_11, r_12, r_13, r_14, r_15, r_16, o_17, g_17_0, g_17_1, g_17_2, g_17_3, g_17_4, r_18, r_19, r_20, r_22, r_23, r_24, r_25, r_26, r_27, r_28, o_29, g_29_0, g_29_1, g_29_2, g_29_3, g_29_4, g_29_5, g_29_6, g_29_7, g_29_8, g_29_9, r_30, r_31, r_32, r_33, r_34, r_35, r_36, o_37, g_37_0, g_37_1, g_37_2, g_37_3, g_37_4, g_37_5, g_37_6, g_37_7, g_37_8, g_37_9, r_38, r_39, r_40, r_41, r_42, r_43, r_44, o_45, g_45_0, g_45_1, g_45_2, g_45_3, g_45_4, g_45_5, g_45_6, g_45_7, g_45_8, g_45_9, r_46, r_47, r_48, r_49, r_50, r_51, r_52, o_53, g_53_0, g_53_1, g_53_2, g_53_3, g_53_4, g_53_5, g_53_6, g_53_7, g_53_8, g_53_9, r_54, r_55, r_56, r_57, r_58, r_59, r_60, o_61, g_61_0, g_61_1, g_61_2, g_61_3, g_61_4, g_61_5, g_61_6, g_61_7, g_61_8, g_61_9, g_61_10, g_61_11, g_61_12, g_61_13, g_61_14, g_61_15, g_61_16, g_61_17, g_61_18, g_61_19, g_61_20, g_61_21, g_61_22, g_61_23, r_62, r_63, r_64, r_65, r_66, r_67, r_68, r_69, r_70, r_71, r_72, r_73, r_74, r_75, r_76, r_77, Option.bind_some, c_sp hT ht 121 p FU hp (by omega) (FUx (by omega))]
  rfl
theorem c_le (hT : CT_ tl tx m) (ht : tl ≤ 120) : ∀ d p fuel, p ≤ 200 → tl < p + d → d < fuel → l_X1_behindLetters_2 17 (HH m) fuel (nI p) = some (nI (leE tl tx d p)) := by
  intro d
  induction d with
  | zero =>
    intro p fuel hp hd hf
    obtain ⟨f, rfl⟩ : ∃ f, fuel = f + 1 := ⟨fuel - 1, by omega⟩
    rw [l_X1_behindLetters_2, g_17_1, Option.bind_some, hT.1, if_pos (le_of (by omega) (by omega))]
    rfl
  | succ d ih =>
    intro p fuel hp hd hf
    obtain ⟨f, rfl⟩ : ∃ f, fuel = f + 1 := ⟨fuel - 1, by omega⟩
    rw [l_X1_behindLetters_2, g_17_1, Option.bind_some, hT.1, leE_s]
    by_cases c : p < tl
    · rw [if_neg (nle_of (by omega) c)]
      simp only [g_17_0, Option.bind_some, r_18 m (show p < 120 by omega), hT.2 p c]
      by_cases c2 : tx p < 97
      · rw [if_pos c2, if_neg (fun h => h.2.1 c2)]
      · rw [if_neg c2]
        by_cases c3 : 122 < tx p
        · rw [if_pos c3, if_neg (fun h => h.2.2 c3)]
        · rw [if_neg c3, if_pos ⟨c, c2, c3⟩, add1]
          exact ih (p + 1) f (by omega) (by omega) (by omega)
    · rw [if_pos (le_of (by omega) (by omega)), if_neg (fun h => c h.1)]
theorem c_letters (hT : CT_ tl tx m) (ht : tl ≤ 120) {p : Nat} (hp : p ≤ 200) : f_X1_behindLetters 17 (nI p) (HH m) = some (nI (le_ tl tx p)) := by
  simp only [f_X1_behindLetters, o_0, g_0_0, g_0_1, g_0_2, g_0_3, g_0_4, g_0_5, g_0_6, g_0_7, g_0_8, g_0_9, g_0_10, g_0_11, o_1, g_1_0, g_1_1, g_1_2, g_1_3, g_1_4, g_1_5, g_1_6, g_1_7, g_1_8, g_1_9, r_2, r_3, r_4, r_5, r_6, r_7, r_8, o_9, g_9_0, g_9_1, g_9_2, g_9_3, g_9_4, g_9_5, g_9_6, g_9_7, g_9_8, g_9_9, r_10, r_11, r_12, r_13, r_14, r_15, r_16, o_17, g_17_0, g_17_1, g_17_2, g_17_3, g_17_4, r_18, r_19, r_20, r_22, r_23, r_24, r_25, r_26, r_27, r_28, o_29, g_29_0, g_29_1, g_29_2, g_29_3, g_29_4, g_29_5, g_29_6, g_29_7, g_29_8, g_29_9, r_30, r_31, r_32, r_33, r_34, r_35, r_36, o_37, g_37_0, g_37_1, g_37_2, g_37_3, g_37_4, g_37_5, g_37_6, g_37_7, g_37_8, g_37_9, r_38, r_39, r_40, r_41, r_42, r_43, r_44, o_45, g_45_0, g_45_1, g_45_2, g_45_3, g_45_4, g_45_5, g_45_6, g_45_7, g_45_8, g_45_9, r_46, r_47, r_48, r_49, r_50, r_51, r_52, o_53, g_53_0, g_53_1, g_53_2, g_53_3, g_53_4, g_53_5, g_53_6, g_53_7, g_53_8, g_53_9, r_54, r_55, r_56, r_57, r_58, r_59, r_60, o_61, g_61_0, g_61_1, g_61_2, g_61_3, g_61_4, g_61_5, g_61_6, g_61_7, g_61_8, g_61_9, g_61_10, g_61_11, g_61_12, g_61_13, g_61_14, g_61_15, g_61_16, g_61_17, g_61_18, g_61_19, g_61_20, g_61_21, g_61_22, g_61_23, r_62, r_63, r_64, r_65, r_66, r_67, r_68, r_69, r_70, r_71, r_72, r_73, r_74, r_75, r_76, r_77, Option.bind_some, c_le hT ht 121 p FU hp (by omega) (FUx (by omega))]
  rfl
theorem c_spelled (hT : CT_ tl tx m) (ht : tl ≤ 120) {w p e : Nat} (hw : w < 6) (hpe : p ≤ e) (he : e ≤ tl) : f_X1_isSpelled 17 (UInt32.ofNat w) (nI p) (nI e) (HH m) = some (nI (eqW tx w p e)) := by
  have hl := lnW_le w hw
  have es : nI e - nI p = nI (e - p) := pk_sub (by omega)
  have q : (nI (lnW w) = nI (e - p)) ↔ lnW w = e - p := nI_eq (by omega) (by omega)
  unfold f_X1_isSpelled eqW
  rw [o_17, Option.bind_some, sLen_e w hw, Option.bind_some, es]
  by_cases c : lnW w = e - p
  · rw [if_pos (q.mpr c)]
    have key : ∃ b, l_X1_isSpelled_15 17 (UInt32.ofNat w) (nI p) (HH m) FU (nI 0) = some b ∧ ((b = .inl () ∧ msW tx w p = 0) ∨ (b = .inr 0 ∧ msW tx w p ≠ 0)) := by
      refine loopR (fun fuel (a : Int32) => l_X1_isSpelled_15 17 (UInt32.ofNat w) (nI p) (HH m) fuel a) (fun k a => a = nI k ∧ cntN (fun c => ¬ byW w c = tx (p + c)) k = 0) _ (lnW w) ?_ ?_ (lnW w) 0 (nI 0) FU (by omega) (FUx (by omega)) ⟨rfl, rfl⟩
      · rintro k a fuel hk ⟨rfl, hv⟩
        rw [l_X1_isSpelled_15, sLen_e w hw, Option.bind_some, if_neg (nle_of (by omega) hk), sCh_e w hw k (by omega) hk, Option.bind_some, g_17_0, Option.bind_some, nI_add, r_18 m (by omega), Option.bind_some, hT.2 (p + k) (by omega), add1]
        by_cases d : byW w k = tx (p + k)
        · rw [if_pos d]
          refine Or.inl ⟨_, rfl, rfl, ?_⟩
          show (if ¬ byW w k = tx (p + k) then cntN (fun c => ¬ byW w c = tx (p + c)) k + 1 else cntN (fun c => ¬ byW w c = tx (p + c)) k) = 0
          rw [if_neg (fun h => h d)]
          exact hv
        · rw [if_neg d]
          exact Or.inr ⟨_, rfl, Or.inr ⟨rfl, fun h => (cntN_0 _ _).mp h k hk d⟩⟩
      · rintro a fuel ⟨rfl, hv⟩
        refine ⟨_, ?_, Or.inl ⟨rfl, hv⟩⟩
        rw [l_X1_isSpelled_15, sLen_e w hw, Option.bind_some, if_pos (le_of (by omega) (Nat.le_refl _))]
    obtain ⟨b, eb, h⟩ := key
    rw [show l_X1_isSpelled_15 17 (UInt32.ofNat w) (nI p) (HH m) FU 0 = _ from eb]
    rcases h with ⟨rfl, h⟩ | ⟨rfl, h⟩
    · rw [if_pos ⟨c, h⟩]
      rfl
    · rw [if_neg (fun z => h z.2)]
      rfl
  · rw [if_neg (fun z => c (q.mp z)), if_neg (fun z => c z.1)]
    rfl
theorem c_word (hT : CT_ tl tx m) (ht : tl ≤ 120) {p e : Nat} (hpe : p ≤ e) (he : e ≤ tl) : f_X1_wordBetween 17 (nI p) (nI e) (HH m) = some (if wd tx p e = 6 then -1 else nI (wd tx p e)) := by
  have one : ∀ w fuel, w < 6 → l_X1_wordBetween_2 17 (nI p) (nI e) (HH m) (fuel + 1) (nI w) = if eqW tx w p e = 1 then some (.inr (nI w)) else l_X1_wordBetween_2 17 (nI p) (nI e) (HH m) fuel (nI (w + 1)) := by
    intro w fuel hw
    have h6 : ¬ (6 : Int32) ≤ nI w := fun q => by rw [le6 (by omega)] at q; omega
    rw [l_X1_wordBetween_2, if_neg h6, spell_e w hw, Option.bind_some, c_spelled hT ht hw hpe he, Option.bind_some, add1]
    rcases eqW_01 tx w p e with h | h
    · rw [h, if_pos (show nI 0 = 0 from rfl), if_neg (by decide)]
    · rw [h, if_neg (show ¬ nI 1 = 0 by decide), if_pos rfl]
  have fin : ∀ fuel, l_X1_wordBetween_2 17 (nI p) (nI e) (HH m) (fuel + 1) (nI 6) = some (.inl ()) := by
    intro fuel
    rw [l_X1_wordBetween_2, if_pos (show (6 : Int32) ≤ nI 6 by decide)]
  have all : l_X1_wordBetween_2 17 (nI p) (nI e) (HH m) (3999993 + 1 + 1 + 1 + 1 + 1 + 1 + 1) (nI 0) = if wd tx p e = 6 then some (.inl ()) else some (.inr (nI (wd tx p e))) := by
    rw [one 0 _ (by omega)]
    unfold wd
    by_cases h0 : eqW tx 0 p e = 1
    · rw [if_pos h0, if_pos h0, if_neg (by decide)]
    · rw [if_neg h0, if_neg h0, one 1 _ (by omega)]
      by_cases h1 : eqW tx 1 p e = 1
      · rw [if_pos h1, if_pos h1, if_neg (by decide)]
      · rw [if_neg h1, if_neg h1, one 2 _ (by omega)]
        by_cases h2 : eqW tx 2 p e = 1
        · rw [if_pos h2, if_pos h2, if_neg (by decide)]
        · rw [if_neg h2, if_neg h2, one 3 _ (by omega)]
          by_cases h3 : eqW tx 3 p e = 1
          · rw [if_pos h3, if_pos h3, if_neg (by decide)]
          · rw [if_neg h3, if_neg h3, one 4 _ (by omega)]
            by_cases h4 : eqW tx 4 p e = 1
            · rw [if_pos h4, if_pos h4, if_neg (by decide)]
            · rw [if_neg h4, if_neg h4, one 5 _ (by omega)]
              by_cases h5 : eqW tx 5 p e = 1
              · rw [if_pos h5, if_pos h5, if_neg (by decide)]
              · rw [if_neg h5, if_neg h5, fin, if_pos rfl]
  unfold f_X1_wordBetween
  rw [o_17, Option.bind_some]
  show bindR0 (l_X1_wordBetween_2 17 (nI p) (nI e) (HH m) (3999993 + 1 + 1 + 1 + 1 + 1 + 1 + 1) (nI 0)) (fun _ => some (-1)) = _
  rw [all]
  by_cases c : wd tx p e = 6
  · rw [if_pos c, if_pos c]
    rfl
  · rw [if_neg c, if_neg c]
    rfl
end CText
