/-! relations: how many of the six are unknown, whether it is fulfilled -/
/-- the signs of a relation's six triples in a row -/
def zs (n r : Nat) (s : Nat → Int32) (w : Nat) : Int32 := s (3 + 4 * fac n r w)
def unk (n r : Nat) (s : Nat → Int32) (k : Nat) : Nat := cntN (fun w => zs n r s w = -100) k
theorem unk_s (n r : Nat) (s : Nat → Int32) (k : Nat) : unk n r s (k + 1) = if zs n r s k = -100 then unk n r s k + 1 else unk n r s k := rfl
/-- a product of a relation, its six signs being z -/
def prd (n r : Nat) (z : Nat → Int32) (p : Nat) : Int32 := (if p = 1 then -1 else 1) * fby n r (2 * p) * fby n r (2 * p + 1) * z (2 * p) * z (2 * p + 1)
/-- whether one of the first products is x (1 or 0) -/
def acc (n r : Nat) (z : Nat → Int32) (x : Int32) : Nat → Int32
  | 0 => 0
  | k + 1 => acc n r z x k ||| (if prd n r z k = x then 1 else 0)
theorem acc_s (n r : Nat) (z : Nat → Int32) (x : Int32) (k : Nat) : acc n r z x (k + 1) = acc n r z x k ||| (if prd n r z k = x then 1 else 0) := rfl
theorem acc_01 (n r : Nat) (z : Nat → Int32) (x : Int32) : ∀ k, acc n r z x k = 0 ∨ acc n r z x k = 1 := by
  intro k
  induction k with
  | zero => exact Or.inl rfl
  | succ k ih =>
    rw [acc_s]
    rcases ih with e | e <;> rw [e] <;> by_cases c : prd n r z k = x <;> first | (rw [if_pos c]; exact Or.inr (by decide)) | (rw [if_neg c]; first | exact Or.inl (by decide) | exact Or.inr (by decide))
theorem acc_n (n r : Nat) (z : Nat → Int32) (x : Int32) (k : Nat) : (if acc n r z x k = 0 then (if prd n r z k = x then some (1 : Int32) else some 0) else some 1) = some (acc n r z x (k + 1)) := by
  rw [acc_s]
  rcases acc_01 n r z x k with e | e
  · rw [e, if_pos rfl]
    by_cases c : prd n r z k = x
    · rw [if_pos c, if_pos c]
      rfl
    · rw [if_neg c, if_neg c]
      rfl
  · rw [e, if_neg (show ¬ (1 : Int32) = 0 by decide)]
    by_cases c : prd n r z k = x
    · rw [if_pos c]
      rfl
    · rw [if_neg c]
      rfl
def ful (n r : Nat) (z : Nat → Int32) : Prop := acc n r z 1 3 = acc n r z (-1) 3
theorem le6 {k : Nat} (hk : k < 2 ^ 31) : ((6 : Int32) ≤ nI k) = (6 ≤ k) := propext (nI_leI (a := 6) (by decide) hk)
theorem le5 {k : Nat} (hk : k < 2 ^ 31) : ((5 : Int32) ≤ nI k) = (5 ≤ k) := propext (nI_leI (a := 5) (by decide) hk)
theorem le3 {k : Nat} (hk : k < 2 ^ 31) : ((3 : Int32) ≤ nI k) = (3 ≤ k) := propext (nI_leI (a := 3) (by decide) hk)
theorem leO {k : Nat} (hk : k < 2 ^ 31) : (nI k ≤ 0) = (k = 0) := propext ((nI_leI (b := 0) hk (by decide)).trans Nat.le_zero)
theorem cl_z {n : Nat} (hn : n38 n) {m : Mem} {s : Nat → Int32} {M : Nat → Int64} (hs : RS 9 m s M) {r w : Nat} (hr : r < nR n) (hw : w < 6) : aI (HH m) 10 (nI (fac n r w)) = some (zs n r s w) := by
  have h8 := nT_le hn
  have hl := fac_lt hn hr hw
  rw [r_10 m (by omega), show m.I 10 (fac n r w) = _ from (hs.2.2.2.1 (fac n r w) (by omega)).1]
  rfl
theorem cl_facA {n : Nat} (hn : n38 n) {m : Mem} (hL : LC n m) {r w : Nat} (hr : r < nR n) (hw : w < 6) : aI (HH m) 6 (nI (r * 6 + w)) = some (nI (fac n r w)) := by
  have h8 := nR_le hn
  simp (disch := omega) only [o_0, g_0_0, g_0_1, g_0_2, g_0_3, g_0_4, g_0_5, g_0_6, g_0_7, g_0_8, g_0_9, g_0_10, g_0_11, o_1, g_1_0, g_1_1, g_1_2, g_1_3, g_1_4, g_1_5, g_1_6, g_1_7, g_1_8, g_1_9, r_2, r_3, r_4, r_5, r_6, r_7, r_8, o_9, g_9_0, g_9_1, g_9_2, g_9_3, g_9_4, g_9_5, g_9_6, g_9_7, g_9_8, g_9_9, r_10, r_11, r_12, r_13, r_14, r_15, r_16, o_17, g_17_0, g_17_1, g_17_2, g_17_3, g_17_4, r_18, r_19, r_20, r_22, r_23, r_24, r_25, r_26, r_27, r_28, o_29, g_29_0, g_29_1, g_29_2, g_29_3, g_29_4, g_29_5, g_29_6, g_29_7, g_29_8, g_29_9, r_30, r_31, r_32, r_33, r_34, r_35, r_36, o_37, g_37_0, g_37_1, g_37_2, g_37_3, g_37_4, g_37_5, g_37_6, g_37_7, g_37_8, g_37_9, r_38, r_39, r_40, r_41, r_42, r_43, r_44, o_45, g_45_0, g_45_1, g_45_2, g_45_3, g_45_4, g_45_5, g_45_6, g_45_7, g_45_8, g_45_9, r_46, r_47, r_48, r_49, r_50, r_51, r_52, o_53, g_53_0, g_53_1, g_53_2, g_53_3, g_53_4, g_53_5, g_53_6, g_53_7, g_53_8, g_53_9, r_54, r_55, r_56, r_57, r_58, r_59, r_60, o_61, g_61_0, g_61_1, g_61_2, g_61_3, g_61_4, g_61_5, g_61_6, g_61_7, g_61_8, g_61_9, g_61_10, g_61_11, g_61_12, g_61_13, g_61_14, g_61_15, g_61_16, g_61_17, g_61_18, g_61_19, g_61_20, g_61_21, g_61_22, g_61_23, r_62, r_63, r_64, r_65, r_66, r_67, r_68, r_69, r_70, r_71, r_72, r_73, r_74, r_75, r_76, r_77]
  rw [(hL.2.2.2.2.2 r hr).2.1 w hw]
theorem cl_unk {n : Nat} (hn : n38 n) {m : Mem} (hL : LC n m) {s : Nat → Int32} {M : Nat → Int64} (hs : RS 9 m s M) {r : Nat} (hr : r < nR n) : f_X0_unknownIn 1 (nI r) 10 (HH m) = some (nI (unk n r s 6)) := by
  have h8 := nR_le hn
  have e6 : nI r * (6 : Int32) = nI (r * 6) := by
    simp (disch := omega) only [show (6 : Int32) = nI 6 from rfl, pk_mul]
  have key : ∃ b, l_X0_unknownIn_11 1 10 (nI (r * 6)) (HH m) FU (nI 0) (nI 0) = some b ∧ b = nI (unk n r s 6) := by
    refine loopR (fun fuel (a : Int32 × Int32) => l_X0_unknownIn_11 1 10 (nI (r * 6)) (HH m) fuel a.1 a.2) (fun k a => a = (nI (unk n r s k), nI k)) _ 6 ?_ ?_ 6 0 (nI 0, nI 0) FU (by omega) (FUx (by omega)) rfl
    · rintro k a fuel hk rfl
      refine Or.inl ⟨(nI (unk n r s (k + 1)), nI (k + 1)), ?_, rfl⟩
      simp (disch := omega) only [l_X0_unknownIn_11, le6, if_neg (show ¬ 6 ≤ k by omega), g_1_7, nI_add, cl_facA hn hL hr hk, cl_z hn hs hr hk, Option.bind_some, unk_s]
      by_cases c : zs n r s k = -100
      · simp only [if_pos c, Option.bind_some, add1]
      · simp only [if_neg c, Option.bind_some, add1]
    · rintro a fuel rfl
      refine ⟨_, ?_, rfl⟩
      simp (disch := omega) only [l_X0_unknownIn_11, le6, if_pos (Nat.le_refl 6)]
  obtain ⟨b, e, rfl⟩ := key
  simp only [f_X0_unknownIn, o_1, Option.bind_some]
  rw [e6, show l_X0_unknownIn_11 1 10 (nI (r * 6)) (HH m) FU 0 0 = _ from e]
  rfl
/-- the first of a relation's six that is unknown, else the last -/
def fst6 (n r : Nat) (s : Nat → Int32) : Nat → Nat → Nat
  | 0, k => k
  | d + 1, k => if zs n r s k = -100 then k else fst6 n r s d (k + 1)
theorem cl_fst {n : Nat} (hn : n38 n) {m : Mem} (hL : LC n m) {s : Nat → Int32} {M : Nat → Int64} (hs : RS 9 m s M) {r : Nat} (hr : r < nR n) (hu : unk n r s 6 = 1) : ∃ w, w < 6 ∧ zs n r s w = -100 ∧ f_X0_firstUnknownIn 1 (nI r) 10 (HH m) = some (nI (fac n r w)) := by
  have key : ∃ b, l_X0_firstUnknownIn_2 1 (nI r) 10 (HH m) FU (nI 0) = some b ∧ ∃ w, w < 6 ∧ zs n r s w = -100 ∧ b = nI w := by
    refine loopR (fun fuel (a : Int32) => l_X0_firstUnknownIn_2 1 (nI r) 10 (HH m) fuel a) (fun k a => a = nI k ∧ unk n r s k = 0) _ 5 ?_ ?_ 5 0 (nI 0) FU (by omega) (FUx (by omega)) ⟨rfl, rfl⟩
    · rintro k a fuel hk ⟨rfl, h0⟩
      simp (disch := omega) only [l_X0_firstUnknownIn_2, le5, if_neg (show ¬ 5 ≤ k by omega), cl_fac hn hL hr (show k < 6 by omega), cl_z hn hs hr (show k < 6 by omega), Option.bind_some]
      by_cases c : zs n r s k = -100
      · rw [if_pos c]
        exact Or.inr ⟨_, rfl, k, by omega, c, rfl⟩
      · rw [if_neg c, add1]
        exact Or.inl ⟨_, rfl, rfl, by rw [unk_s, if_neg c]; exact h0⟩
    · rintro a fuel ⟨rfl, h0⟩
      refine ⟨nI 5, ?_, 5, by omega, ?_, rfl⟩
      · simp (disch := omega) only [l_X0_firstUnknownIn_2, le5, if_pos (Nat.le_refl 5)]
      · rw [unk_s] at hu
        by_cases c : zs n r s 5 = -100
        · exact c
        · rw [if_neg c] at hu
          omega
  obtain ⟨b, e, w, hw, hz, rfl⟩ := key
  refine ⟨w, hw, hz, ?_⟩
  simp only [f_X0_firstUnknownIn, o_1, Option.bind_some]
  rw [show l_X0_firstUnknownIn_2 1 (nI r) 10 (HH m) FU 0 = _ from e]
  simp only [Option.bind_some, cl_fac hn hL hr hw]
theorem cl_vd {n : Nat} (hn : n38 n) {m : Mem} (hL : LC n m) {s : Nat → Int32} {M : Nat → Int64} (hs : RS 9 m s M) {r : Nat} (hr : r < nR n) : ∃ v, f_X0_verdict 1 (nI r) 10 (HH m) = some v ∧ (unk n r s 6 ≠ 0 → v = 0) ∧ (unk n r s 6 = 0 → (ful n r (zs n r s) → v = 1) ∧ (¬ ful n r (zs n r s) → v = -1)) := by
  have hR := nR_le hn
  have key : ∃ b, l_X0_verdict_19 1 (nI r) 10 (HH m) FU 0 0 (nI 0) = some b ∧ b = (acc n r (zs n r s) 1 3, acc n r (zs n r s) (-1) 3) := by
    refine loopR (fun fuel (a : Int32 × Int32 × Int32) => l_X0_verdict_19 1 (nI r) 10 (HH m) fuel a.1 a.2.1 a.2.2) (fun k a => a = (acc n r (zs n r s) 1 k, acc n r (zs n r s) (-1) k, nI k)) _ 3 ?_ ?_ 3 0 (0, 0, nI 0) FU (by omega) (FUx (by omega)) rfl
    · rintro k a fuel hk rfl
      refine Or.inl ⟨(acc n r (zs n r s) 1 (k + 1), acc n r (zs n r s) (-1) (k + 1), nI (k + 1)), ?_, rfl⟩
      have e7 := (hL.2.2.2.2.2 r hr).2.2.1 k hk
      simp (disch := omega) only [l_X0_verdict_19, leN, if_neg (show ¬ 3 ≤ k by omega), o_0, g_0_0, g_0_1, g_0_2, g_0_3, g_0_4, g_0_5, g_0_6, g_0_7, g_0_8, g_0_9, g_0_10, g_0_11, o_1, g_1_0, g_1_1, g_1_2, g_1_3, g_1_4, g_1_5, g_1_6, g_1_7, g_1_8, g_1_9, r_2, r_3, r_4, r_5, r_6, r_7, r_8, o_9, g_9_0, g_9_1, g_9_2, g_9_3, g_9_4, g_9_5, g_9_6, g_9_7, g_9_8, g_9_9, r_10, r_11, r_12, r_13, r_14, r_15, r_16, o_17, g_17_0, g_17_1, g_17_2, g_17_3, g_17_4, r_18, r_19, r_20, r_22, r_23, r_24, r_25, r_26, r_27, r_28, o_29, g_29_0, g_29_1, g_29_2, g_29_3, g_29_4, g_29_5, g_29_6, g_29_7, g_29_8, g_29_9, r_30, r_31, r_32, r_33, r_34, r_35, r_36, o_37, g_37_0, g_37_1, g_37_2, g_37_3, g_37_4, g_37_5, g_37_6, g_37_7, g_37_8, g_37_9, r_38, r_39, r_40, r_41, r_42, r_43, r_44, o_45, g_45_0, g_45_1, g_45_2, g_45_3, g_45_4, g_45_5, g_45_6, g_45_7, g_45_8, g_45_9, r_46, r_47, r_48, r_49, r_50, r_51, r_52, o_53, g_53_0, g_53_1, g_53_2, g_53_3, g_53_4, g_53_5, g_53_6, g_53_7, g_53_8, g_53_9, r_54, r_55, r_56, r_57, r_58, r_59, r_60, o_61, g_61_0, g_61_1, g_61_2, g_61_3, g_61_4, g_61_5, g_61_6, g_61_7, g_61_8, g_61_9, g_61_10, g_61_11, g_61_12, g_61_13, g_61_14, g_61_15, g_61_16, g_61_17, g_61_18, g_61_19, g_61_20, g_61_21, g_61_22, g_61_23, r_62, r_63, r_64, r_65, r_66, r_67, r_68, r_69, r_70, r_71, r_72, r_73, r_74, r_75, r_76, r_77, Option.bind_some, show (3 : Int32) = nI 3 from rfl, show (2 : Int32) = nI 2 from rfl, show nI (2 * k) + (1 : Int32) = nI (2 * k + 1) from add1 _, pk_mul, nI_add, cl_fac hn hL hr (show 2 * k < 6 by omega), cl_fac hn hL hr (show 2 * k + 1 < 6 by omega), cl_z hn hs hr (show 2 * k < 6 by omega), cl_z hn hs hr (show 2 * k + 1 < 6 by omega), e7]
      rw [show (if k = 1 then (-1 : Int32) else 1) * fby n r (2 * k) * fby n r (2 * k + 1) * zs n r s (2 * k) * zs n r s (2 * k + 1) = prd n r (zs n r s) k from rfl]
      simp only [acc_n n r (zs n r s) 1 k, acc_n n r (zs n r s) (-1) k, Option.bind_some, add1]
    · rintro a fuel rfl
      refine ⟨_, ?_, rfl⟩
      simp (disch := omega) only [l_X0_verdict_19, le3, if_pos (Nat.le_refl 3)]
  obtain ⟨b, e, rfl⟩ := key
  have hu := cntN_le (fun w => zs n r s w = -100) 6
  simp (disch := omega) only [f_X0_verdict, o_1, Option.bind_some, cl_unk hn hL hs hr]
  rw [show l_X0_verdict_19 1 (nI r) 10 (HH m) FU 0 0 0 = _ from e]
  have hl : (nI (unk n r s 6) ≤ 0) ↔ unk n r s 6 = 0 := by
    rw [leO (show unk n r s 6 < 2 ^ 31 by unfold unk; omega)]
  by_cases c : unk n r s 6 = 0
  · rw [if_pos (hl.mpr c)]
    simp only [bind2]
    by_cases c2 : ful n r (zs n r s)
    · rw [if_pos (show acc n r (zs n r s) 1 3 = acc n r (zs n r s) (-1) 3 from c2)]
      exact ⟨1, rfl, fun q => absurd c q, fun _ => ⟨fun _ => rfl, fun q => absurd c2 q⟩⟩
    · rw [if_neg (show ¬ acc n r (zs n r s) 1 3 = acc n r (zs n r s) (-1) 3 from c2)]
      exact ⟨-1, rfl, fun q => absurd c q, fun _ => ⟨fun q => absurd q c2, fun _ => rfl⟩⟩
  · rw [if_neg (fun q => c (hl.mp q))]
    exact ⟨0, rfl, fun _ => rfl, fun q => absurd q c⟩
