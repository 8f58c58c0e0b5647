/-! one call of either, and the run -/
def PO (o : Option Hp) : Prop := ∃ m2, o = some (HH m2) ∧ INV m2
theorem thr_e (m : Mem) : f_X4_thrown 61 (HH m) = some (m.I 61 6) := by
  simp only [f_X4_thrown, o_61, g_61_6, Option.bind_some]
theorem r77 (m : Mem) : aJ (HH m) 77 0 = some (m.J 77 0) := r_77 m (i := 0) (by omega)
theorem tailJ {k : Int32} {b : Int64} {m : Mem} (hk : m.I 61 6 = k) (hb : k = 0 → m.J 77 0 = b) : ((f_X4_thrown 61 (HH m)).bind fun v7 => if v7 = k then (if k = 0 then (aJ (HH m) 77 0).bind fun v10 => if (lg_cmp v10 b) = 0 then some (HH m) else none else some (HH m)) else none) = some (HH m) := by
  rw [thr_e, Option.bind_some, if_pos hk]
  by_cases c : k = 0
  · rw [if_pos c, r77, Option.bind_some, if_pos ((lgc _ _).mpr (hb c))]
  · rw [if_neg c]
theorem tailB {k b : Int32} {m : Mem} (hk : m.I 61 6 = k) (hb : k = 0 → m.J 77 0 = b.toInt64) (h01 : b = 0 ∨ b = 1) : ((f_X4_thrown 61 (HH m)).bind fun v7 => if v7 = k then (if k = 0 then (aJ (HH m) 77 0).bind fun v10 => if b = 0 then (if (lg_cmp v10 (0 : Int64)) = 0 then some (HH m) else none) else (if (lg_cmp v10 (1 : Int64)) = 0 then some (HH m) else none) else some (HH m)) else none) = some (HH m) := by
  rw [thr_e, Option.bind_some, if_pos hk]
  by_cases c : k = 0
  · rw [if_pos c, r77, Option.bind_some]
    rcases h01 with e | e
    · rw [if_pos e, if_pos ((lgc _ _).mpr (by rw [hb c, e]; rfl))]
    · rw [if_neg (by rw [e]; decide), if_pos ((lgc _ _).mpr (by rw [hb c, e]; rfl))]
  · rw [if_neg c]
def Z01 (o : Option (Int32 × Hp)) : Prop := ∀ b h, o = some (b, h) → b = 0 ∨ b = 1
theorem Z_bind {α : Type} {o : Option α} {F : α → Option (Int32 × Hp)} (h : ∀ a, Z01 (F a)) : Z01 (o.bind F) := by
  intro b h2 e
  cases o with
  | none => cases e
  | some a => exact h a b h2 e
theorem Z_bind2 {α : Type} {o : Option (α × Hp)} {F : α → Hp → Option (Int32 × Hp)} (h : ∀ a h, Z01 (F a h)) : Z01 (bind2 o F) := by
  intro b h2 e
  cases o with
  | none => cases e
  | some a => exact h a.1 a.2 b h2 e
theorem Z_ite {p : Prop} [Decidable p] {a b : Option (Int32 × Hp)} (h1 : Z01 a) (h2 : Z01 b) : Z01 (if p then a else b) := by
  split
  · exact h1
  · exact h2
theorem Z_0 (h : Hp) : Z01 (some (0, h)) := fun b h e => by cases e; exact Or.inl rfl
theorem Z_1 (h : Hp) : Z01 (some (1, h)) := fun b h e => by cases e; exact Or.inr rfl
theorem Z_g (v : Int32) (h : Hp) : Z01 ((gB v).bind fun _ => some (v, h)) := by
  intro b h2 e
  unfold gB at e
  split at e
  · rename_i c
    cases e
    exact c
  · cases e
theorem ext_01 (x : Int32) (h : Hp) : Z01 (f_X4_isExtreme 61 x h) := by
  unfold f_X4_isExtreme
  exact Z_bind fun _ => Z_bind fun _ => Z_ite (Z_bind2 fun _ _ => Z_ite (Z_0 _) (Z_1 _)) (Z_bind fun _ => Z_bind fun _ => Z_g _ _)
theorem plc_01 (p x y : Int32) (h : Hp) : Z01 (f_X4_place 61 p x y h) := by
  unfold f_X4_place
  exact Z_bind fun _ => Z_bind fun _ => Z_ite (Z_bind2 fun _ _ => Z_ite (Z_0 _) (Z_1 _)) (Z_bind fun _ => Z_ite (Z_bind2 fun _ _ => Z_ite (Z_0 _) (Z_1 _)) (Z_bind fun _ => Z_ite (Z_bind2 fun _ _ => Z_ite (Z_0 _) (Z_1 _)) (Z_bind fun _ => Z_bind fun _ => Z_bind fun _ => Z_bind fun _ => Z_bind fun _ => Z_bind fun _ => Z_bind fun _ => Z_bind2 fun _ _ => Z_ite (Z_1 _) (Z_0 _))))
section Step
variable {L : Nat} {xs : Nat → Int32} {i : Int32} {m : Mem} {x1 x2 x3 x4 : Int32}
theorem case0_ok (hi : INV m) (r1 : sR L xs (i + 1) = some x1) (r2 : sR L xs (i + 2) = some x2) (r3 : sR L xs (i + 3) = some x3) (r4 : sR L xs (i + 4) = some x4) : PO (f_case0 L xs 0 61 77 i (HH m)) := by
  obtain ⟨k, m1, b, m2, eX, eY, hk, hb, h2⟩ := k_begin hi x1
  refine ⟨m2, ?_, h2⟩
  simp only [f_case0, r1, Option.bind_some, eX, bind2, eY]
  exact tailJ hk hb
theorem case1_ok (hi : INV m) (r1 : sR L xs (i + 1) = some x1) (r2 : sR L xs (i + 2) = some x2) (r3 : sR L xs (i + 3) = some x3) (r4 : sR L xs (i + 4) = some x4) : PO (f_case1 L xs 0 61 77 i (HH m)) := by
  obtain ⟨k, m1, b, m2, eX, eY, hk, hb, h2⟩ := k_give hi x1 x2 x3 x4
  refine ⟨m2, ?_, h2⟩
  simp only [f_case1, r1, r2, r3, r4, Option.bind_some, eX, bind2, eY]
  exact tailJ hk hb
theorem case2_ok (hi : INV m) (r1 : sR L xs (i + 1) = some x1) (r2 : sR L xs (i + 2) = some x2) (r3 : sR L xs (i + 3) = some x3) (r4 : sR L xs (i + 4) = some x4) : PO (f_case2 L xs 0 61 77 i (HH m)) := by
  obtain ⟨k, m1, b, m2, eX, eY, hk, hb, h2⟩ := k_drop hi x1 x2 x3
  refine ⟨m2, ?_, h2⟩
  simp only [f_case2, r1, r2, r3, Option.bind_some, eX, bind2, eY]
  exact tailJ hk hb
theorem case3_ok (hi : INV m) (r1 : sR L xs (i + 1) = some x1) (r2 : sR L xs (i + 2) = some x2) (r3 : sR L xs (i + 3) = some x3) (r4 : sR L xs (i + 4) = some x4) : PO (f_case3 L xs 0 61 77 i (HH m)) := by
  by_cases c : x1 = 0
  · obtain ⟨v, m1, m2, eX, eY, h2⟩ := k_uniform hi (a := 0) (Or.inl rfl)
    refine ⟨m2, ?_, h2⟩
    simp only [f_case3, r1, Option.bind_some, if_pos c, eX, bind2, eY, if_true]
  · obtain ⟨v, m1, m2, eX, eY, h2⟩ := k_uniform hi (a := 1) (Or.inr rfl)
    refine ⟨m2, ?_, h2⟩
    simp only [f_case3, r1, Option.bind_some, if_neg c, eX, bind2, eY, if_true]
theorem case4_ok (hi : INV m) (r1 : sR L xs (i + 1) = some x1) (r2 : sR L xs (i + 2) = some x2) (r3 : sR L xs (i + 3) = some x3) (r4 : sR L xs (i + 4) = some x4) : PO (f_case4 L xs 0 61 77 i (HH m)) := by
  obtain ⟨v, m1, m2, eX, eY, h2⟩ := k_derive hi
  refine ⟨m2, ?_, h2⟩
  simp only [f_case4, eX, bind2, eY, if_true]
theorem case5_ok (hi : INV m) (r1 : sR L xs (i + 1) = some x1) (r2 : sR L xs (i + 2) = some x2) (r3 : sR L xs (i + 3) = some x3) (r4 : sR L xs (i + 4) = some x4) : PO (f_case5 L xs 0 61 77 i (HH m)) := by
  obtain ⟨v, m1, m2, eX, eY, h2⟩ := k_forget hi
  refine ⟨m2, ?_, h2⟩
  simp only [f_case5, eX, bind2, eY, if_true]
theorem case6_ok (hi : INV m) (r1 : sR L xs (i + 1) = some x1) (r2 : sR L xs (i + 2) = some x2) (r3 : sR L xs (i + 3) = some x3) (r4 : sR L xs (i + 4) = some x4) : PO (f_case6 L xs 0 61 77 i (HH m)) := by
  obtain ⟨v, m1, m2, eX, eY, h2⟩ := k_mirror hi
  refine ⟨m2, ?_, h2⟩
  simp only [f_case6, eX, bind2, eY, if_true]
theorem case7_ok (hi : INV m) (r1 : sR L xs (i + 1) = some x1) (r2 : sR L xs (i + 2) = some x2) (r3 : sR L xs (i + 3) = some x3) (r4 : sR L xs (i + 4) = some x4) : PO (f_case7 L xs 0 61 77 i (HH m)) := by
  obtain ⟨k, m1, b, m2, eX, eY, hk, hb, h2⟩ := k_turn hi x1
  refine ⟨m2, ?_, h2⟩
  simp only [f_case7, r1, Option.bind_some, eX, bind2, eY]
  exact tailJ hk hb
theorem case8_ok (hi : INV m) (r1 : sR L xs (i + 1) = some x1) (r2 : sR L xs (i + 2) = some x2) (r3 : sR L xs (i + 3) = some x3) (r4 : sR L xs (i + 4) = some x4) : PO (f_case8 L xs 0 61 77 i (HH m)) := by
  obtain ⟨k, m1, b, m2, eX, eY, hk, hb, h2⟩ := k_exchange hi x1 x2
  refine ⟨m2, ?_, h2⟩
  simp only [f_case8, r1, r2, Option.bind_some, eX, bind2, eY]
  exact tailJ hk hb
theorem case9_ok (hi : INV m) (r1 : sR L xs (i + 1) = some x1) (r2 : sR L xs (i + 2) = some x2) (r3 : sR L xs (i + 3) = some x3) (r4 : sR L xs (i + 4) = some x4) : PO (f_case9 L xs 0 61 77 i (HH m)) := by
  obtain ⟨k, m1, b, m2, eX, eY, hk, hb, h2⟩ := k_sign hi x1 x2 x3
  refine ⟨m2, ?_, h2⟩
  simp only [f_case9, r1, r2, r3, Option.bind_some, eX, bind2, eY]
  exact tailJ hk hb
theorem case10_ok (hi : INV m) (r1 : sR L xs (i + 1) = some x1) (r2 : sR L xs (i + 2) = some x2) (r3 : sR L xs (i + 3) = some x3) (r4 : sR L xs (i + 4) = some x4) : PO (f_case10 L xs 0 61 77 i (HH m)) := by
  obtain ⟨k, m1, b, m2, eX, eY, hk, hb, h2⟩ := k_triple hi x1 x2
  refine ⟨m2, ?_, h2⟩
  simp only [f_case10, r1, r2, Option.bind_some, eX, bind2, eY]
  exact tailJ hk hb
theorem case11_ok (hi : INV m) (r1 : sR L xs (i + 1) = some x1) (r2 : sR L xs (i + 2) = some x2) (r3 : sR L xs (i + 3) = some x3) (r4 : sR L xs (i + 4) = some x4) : PO (f_case11 L xs 0 61 77 i (HH m)) := by
  obtain ⟨k, m1, b, m2, eX, eY, hk, hb, h2⟩ := k_reasons hi x1
  refine ⟨m2, ?_, h2⟩
  simp only [f_case11, r1, Option.bind_some, eX, bind2, eY]
  exact tailJ hk hb
theorem case12_ok (hi : INV m) (r1 : sR L xs (i + 1) = some x1) (r2 : sR L xs (i + 2) = some x2) (r3 : sR L xs (i + 3) = some x3) (r4 : sR L xs (i + 4) = some x4) : PO (f_case12 L xs 0 61 77 i (HH m)) := by
  obtain ⟨k, m1, b, m2, eX, eY, hk, hb, h2⟩ := k_count hi x1
  refine ⟨m2, ?_, h2⟩
  simp only [f_case12, r1, Option.bind_some, eX, bind2, eY]
  exact tailJ hk hb
theorem case13_ok (hi : INV m) (r1 : sR L xs (i + 1) = some x1) (r2 : sR L xs (i + 2) = some x2) (r3 : sR L xs (i + 3) = some x3) (r4 : sR L xs (i + 4) = some x4) : PO (f_case13 L xs 0 61 77 i (HH m)) := by
  obtain ⟨k, m1, b, m2, eX, eY, hk, hb, h2⟩ := k_relation hi x1 x2
  refine ⟨m2, ?_, h2⟩
  simp only [f_case13, r1, r2, Option.bind_some, eX, bind2, eY]
  exact tailJ hk hb
theorem case14_ok (hi : INV m) (r1 : sR L xs (i + 1) = some x1) (r2 : sR L xs (i + 2) = some x2) (r3 : sR L xs (i + 3) = some x3) (r4 : sR L xs (i + 4) = some x4) : PO (f_case14 L xs 0 61 77 i (HH m)) := by
  obtain ⟨k, m1, b, m2, eX, eY, hk, hb, h2⟩ := k_behind hi x1
  refine ⟨m2, ?_, h2⟩
  simp only [f_case14, r1, Option.bind_some, eX, bind2, eY]
  exact tailJ hk hb
theorem case15_ok (hi : INV m) (r1 : sR L xs (i + 1) = some x1) (r2 : sR L xs (i + 2) = some x2) (r3 : sR L xs (i + 3) = some x3) (r4 : sR L xs (i + 4) = some x4) : PO (f_case15 L xs 0 61 77 i (HH m)) := by
  obtain ⟨k, m1, b, m2, eX, eY, hk, hb, h2⟩ := k_completions hi 
  refine ⟨m2, ?_, h2⟩
  simp only [f_case15, Option.bind_some, eX, bind2, eY]
  exact tailJ hk hb
theorem case16_ok (hi : INV m) (r1 : sR L xs (i + 1) = some x1) (r2 : sR L xs (i + 2) = some x2) (r3 : sR L xs (i + 3) = some x3) (r4 : sR L xs (i + 4) = some x4) : PO (f_case16 L xs 0 61 77 i (HH m)) := by
  obtain ⟨k, m1, b, m2, eX, eY, hk, hb, h2⟩ := k_cocircuit hi x1 x2
  refine ⟨m2, ?_, h2⟩
  simp only [f_case16, r1, r2, Option.bind_some, eX, bind2, eY]
  exact tailJ hk hb
theorem case17_ok (hi : INV m) (r1 : sR L xs (i + 1) = some x1) (r2 : sR L xs (i + 2) = some x2) (r3 : sR L xs (i + 3) = some x3) (r4 : sR L xs (i + 4) = some x4) : PO (f_case17 L xs 0 61 77 i (HH m)) := by
  obtain ⟨k, m1, b, m2, eX, eY, hk, hb, h2⟩ := k_extreme hi x1
  refine ⟨m2, ?_, h2⟩
  simp only [f_case17, r1, Option.bind_some, eX, bind2, eY]
  exact tailB hk hb (ext_01 x1 _ _ _ eY)
theorem case18_ok (hi : INV m) (r1 : sR L xs (i + 1) = some x1) (r2 : sR L xs (i + 2) = some x2) (r3 : sR L xs (i + 3) = some x3) (r4 : sR L xs (i + 4) = some x4) : PO (f_case18 L xs 0 61 77 i (HH m)) := by
  obtain ⟨k, m1, b, m2, eX, eY, hk, hb, h2⟩ := k_lines hi 
  refine ⟨m2, ?_, h2⟩
  simp only [f_case18, Option.bind_some, eX, bind2, eY]
  exact tailJ hk hb
theorem case19_ok (hi : INV m) (r1 : sR L xs (i + 1) = some x1) (r2 : sR L xs (i + 2) = some x2) (r3 : sR L xs (i + 3) = some x3) (r4 : sR L xs (i + 4) = some x4) : PO (f_case19 L xs 0 61 77 i (HH m)) := by
  obtain ⟨k, m1, b, m2, eX, eY, hk, hb, h2⟩ := k_place hi x1 x2 x3
  refine ⟨m2, ?_, h2⟩
  simp only [f_case19, r1, r2, r3, Option.bind_some, eX, bind2, eY]
  exact tailB hk hb (plc_01 x1 x2 x3 _ _ _ eY)
theorem case20_ok (hi : INV m) (r1 : sR L xs (i + 1) = some x1) (r2 : sR L xs (i + 2) = some x2) (r3 : sR L xs (i + 3) = some x3) (r4 : sR L xs (i + 4) = some x4) : PO (f_case20 L xs 0 61 77 i (HH m)) := by
  obtain ⟨k, m1, b, m2, eX, eY, hk, hb, h2⟩ := k_coordinate hi x1 x2
  refine ⟨m2, ?_, h2⟩
  simp only [f_case20, r1, r2, Option.bind_some, eX, bind2, eY]
  exact tailJ hk hb
theorem case21_ok (hi : INV m) (r1 : sR L xs (i + 1) = some x1) (r2 : sR L xs (i + 2) = some x2) (r3 : sR L xs (i + 3) = some x3) (r4 : sR L xs (i + 4) = some x4) : PO (f_case21 L xs 0 61 77 i (HH m)) := by
  obtain ⟨v, m1, m2, eX, eY, h2⟩ := k_read hi
  refine ⟨m2, ?_, h2⟩
  simp only [f_case21, eX, bind2, eY, if_true]
theorem case22_ok (hi : INV m) (r1 : sR L xs (i + 1) = some x1) (r2 : sR L xs (i + 2) = some x2) (r3 : sR L xs (i + 3) = some x3) (r4 : sR L xs (i + 4) = some x4) : PO (f_case22 L xs 0 61 77 i (HH m)) := by
  obtain ⟨v, m2, eX, eY, h2⟩ := k_mismatches hi
  refine ⟨m2, ?_, h2⟩
  simp only [f_case22, eX, Option.bind_some, bind2, eY, if_true]
theorem case23_ok (hi : INV m) (r1 : sR L xs (i + 1) = some x1) (r2 : sR L xs (i + 2) = some x2) (r3 : sR L xs (i + 3) = some x3) (r4 : sR L xs (i + 4) = some x4) : PO (f_case23 L xs 0 61 77 i (HH m)) := by
  obtain ⟨k, m1, b, m2, eX, eY, hk, hb, h2⟩ := k_scatter hi x1 x2 x3
  refine ⟨m2, ?_, h2⟩
  simp only [f_case23, r1, r2, r3, Option.bind_some, eX, bind2, eY]
  exact tailJ hk hb
theorem case24_ok (hi : INV m) (r1 : sR L xs (i + 1) = some x1) (r2 : sR L xs (i + 2) = some x2) (r3 : sR L xs (i + 3) = some x3) (r4 : sR L xs (i + 4) = some x4) : PO (f_case24 L xs 0 61 77 i (HH m)) := by
  obtain ⟨k, m1, b, m2, eX, eY, hk, hb, h2⟩ := k_type hi x1
  refine ⟨m2, ?_, h2⟩
  simp only [f_case24, r1, Option.bind_some, eX, bind2, eY]
  exact tailJ hk hb
theorem case25_ok (hi : INV m) (r1 : sR L xs (i + 1) = some x1) (r2 : sR L xs (i + 2) = some x2) (r3 : sR L xs (i + 3) = some x3) (r4 : sR L xs (i + 4) = some x4) : PO (f_case25 L xs 0 61 77 i (HH m)) := by
  obtain ⟨v, m1, m2, eX, eY, h2⟩ := k_clear hi
  refine ⟨m2, ?_, h2⟩
  simp only [f_case25, eX, bind2, eY, if_true]
theorem case26_ok (hi : INV m) (r1 : sR L xs (i + 1) = some x1) (r2 : sR L xs (i + 2) = some x2) (r3 : sR L xs (i + 3) = some x3) (r4 : sR L xs (i + 4) = some x4) : PO (f_case26 L xs 0 61 77 i (HH m)) := by
  obtain ⟨v, m1, m2, eX, eY, h2⟩ := k_run hi
  refine ⟨m2, ?_, h2⟩
  simp only [f_case26, eX, bind2, eY, if_true]
theorem case27_ok (hi : INV m) (r1 : sR L xs (i + 1) = some x1) (r2 : sR L xs (i + 2) = some x2) (r3 : sR L xs (i + 3) = some x3) (r4 : sR L xs (i + 4) = some x4) : PO (f_case27 L xs 0 61 77 i (HH m)) := by
  obtain ⟨k, m1, b, m2, eX, eY, hk, hb, h2⟩ := k_written hi x1
  refine ⟨m2, ?_, h2⟩
  simp only [f_case27, r1, Option.bind_some, eX, bind2, eY]
  exact tailJ hk hb
theorem case28_ok (hi : INV m) (r1 : sR L xs (i + 1) = some x1) (r2 : sR L xs (i + 2) = some x2) (r3 : sR L xs (i + 3) = some x3) (r4 : sR L xs (i + 4) = some x4) : PO (f_case28 L xs 0 61 77 i (HH m)) := by
  obtain ⟨k, m1, b, m2, eX, eY, hk, hb, h2⟩ := k_undo hi 
  refine ⟨m2, ?_, h2⟩
  simp only [f_case28, Option.bind_some, eX, bind2, eY]
  exact tailJ hk hb
theorem case29_ok (hi : INV m) (r1 : sR L xs (i + 1) = some x1) (r2 : sR L xs (i + 2) = some x2) (r3 : sR L xs (i + 3) = some x3) (r4 : sR L xs (i + 4) = some x4) : PO (f_case29 L xs 0 61 77 i (HH m)) := by
  obtain ⟨v, m2, eX, eY, h2⟩ := k_digest hi
  refine ⟨m2, ?_, h2⟩
  simp only [f_case29, eX, bindT, bind2, eY]
  rw [if_pos ((lgc v v).mpr rfl)]
theorem body_ok {x0 : Int32} (hi : INV m) (r0 : sR L xs i = some x0) (r1 : sR L xs (i + 1) = some x1) (r2 : sR L xs (i + 2) = some x2) (r3 : sR L xs (i + 3) = some x3) (r4 : sR L xs (i + 4) = some x4) : PO (f_body L xs 0 61 77 i (HH m)) := by
  unfold f_body
  rw [r0, Option.bind_some]
  obtain ⟨d, ed⟩ : ∃ d, d = x0 &&& (31 : Int32) := ⟨_, rfl⟩
  rw [← ed]
  by_cases c0 : d = 0
  · rw [if_pos c0]
    exact case0_ok hi r1 r2 r3 r4
  rw [if_neg c0]
  by_cases c1 : d = 1
  · rw [if_pos c1]
    exact case1_ok hi r1 r2 r3 r4
  rw [if_neg c1]
  by_cases c2 : d = 2
  · rw [if_pos c2]
    exact case2_ok hi r1 r2 r3 r4
  rw [if_neg c2]
  by_cases c3 : d = 3
  · rw [if_pos c3]
    exact case3_ok hi r1 r2 r3 r4
  rw [if_neg c3]
  by_cases c4 : d = 4
  · rw [if_pos c4]
    exact case4_ok hi r1 r2 r3 r4
  rw [if_neg c4]
  by_cases c5 : d = 5
  · rw [if_pos c5]
    exact case5_ok hi r1 r2 r3 r4
  rw [if_neg c5]
  by_cases c6 : d = 6
  · rw [if_pos c6]
    exact case6_ok hi r1 r2 r3 r4
  rw [if_neg c6]
  by_cases c7 : d = 7
  · rw [if_pos c7]
    exact case7_ok hi r1 r2 r3 r4
  rw [if_neg c7]
  by_cases c8 : d = 8
  · rw [if_pos c8]
    exact case8_ok hi r1 r2 r3 r4
  rw [if_neg c8]
  by_cases c9 : d = 9
  · rw [if_pos c9]
    exact case9_ok hi r1 r2 r3 r4
  rw [if_neg c9]
  by_cases c10 : d = 10
  · rw [if_pos c10]
    exact case10_ok hi r1 r2 r3 r4
  rw [if_neg c10]
  by_cases c11 : d = 11
  · rw [if_pos c11]
    exact case11_ok hi r1 r2 r3 r4
  rw [if_neg c11]
  by_cases c12 : d = 12
  · rw [if_pos c12]
    exact case12_ok hi r1 r2 r3 r4
  rw [if_neg c12]
  by_cases c13 : d = 13
  · rw [if_pos c13]
    exact case13_ok hi r1 r2 r3 r4
  rw [if_neg c13]
  by_cases c14 : d = 14
  · rw [if_pos c14]
    exact case14_ok hi r1 r2 r3 r4
  rw [if_neg c14]
  by_cases c15 : d = 15
  · rw [if_pos c15]
    exact case15_ok hi r1 r2 r3 r4
  rw [if_neg c15]
  by_cases c16 : d = 16
  · rw [if_pos c16]
    exact case16_ok hi r1 r2 r3 r4
  rw [if_neg c16]
  by_cases c17 : d = 17
  · rw [if_pos c17]
    exact case17_ok hi r1 r2 r3 r4
  rw [if_neg c17]
  by_cases c18 : d = 18
  · rw [if_pos c18]
    exact case18_ok hi r1 r2 r3 r4
  rw [if_neg c18]
  by_cases c19 : d = 19
  · rw [if_pos c19]
    exact case19_ok hi r1 r2 r3 r4
  rw [if_neg c19]
  by_cases c20 : d = 20
  · rw [if_pos c20]
    exact case20_ok hi r1 r2 r3 r4
  rw [if_neg c20]
  by_cases c21 : d = 21
  · rw [if_pos c21]
    exact case21_ok hi r1 r2 r3 r4
  rw [if_neg c21]
  by_cases c22 : d = 22
  · rw [if_pos c22]
    exact case22_ok hi r1 r2 r3 r4
  rw [if_neg c22]
  by_cases c23 : d = 23
  · rw [if_pos c23]
    exact case23_ok hi r1 r2 r3 r4
  rw [if_neg c23]
  by_cases c24 : d = 24
  · rw [if_pos c24]
    exact case24_ok hi r1 r2 r3 r4
  rw [if_neg c24]
  by_cases c25 : d = 25
  · rw [if_pos c25]
    exact case25_ok hi r1 r2 r3 r4
  rw [if_neg c25]
  by_cases c26 : d = 26
  · rw [if_pos c26]
    exact case26_ok hi r1 r2 r3 r4
  rw [if_neg c26]
  by_cases c27 : d = 27
  · rw [if_pos c27]
    exact case27_ok hi r1 r2 r3 r4
  rw [if_neg c27]
  by_cases c28 : d = 28
  · rw [if_pos c28]
    exact case28_ok hi r1 r2 r3 r4
  rw [if_neg c28]
  by_cases c29 : d = 29
  · rw [if_pos c29]
    exact case29_ok hi r1 r2 r3 r4
  rw [if_neg c29]
  exact ⟨m, rfl, hi⟩
end Step
theorem sR_e {L : Nat} (xs : Nat → Int32) {k : Nat} (hL : L ≤ 2560) (hk : k < L) : sR L xs (nI k) = some (xs k) := by
  unfold sR
  rw [nI_clamp (show k < 2 ^ 31 by omega), if_neg (by
    rintro (h | h)
    · exact nI_pos (show k < 2 ^ 31 by omega) h
    · omega)]
def PP (x m ot : Nat) (h : Hp) : Prop := x = 0 ∧ m = 61 ∧ ot = 77 ∧ ∃ mu, h = HH mu ∧ INV mu
theorem step_ok : ∀ (L : Nat) (xs : Nat → Int32) (x m ot : Nat) (j : Nat) (h : Hp), PP x m ot h → L ≤ 2560 → 5 * j + 5 ≤ L → ∃ h2, f_body L xs x m ot (Int32.ofNat (5 * j)) h = some h2 ∧ PP x m ot h2 := by
  rintro L xs x m ot j h ⟨rfl, rfl, rfl, mu, rfl, hi⟩ hL hj
  have a1 : nI (5 * j) + (1 : Int32) = nI (5 * j + 1) := nI_add _ 1
  have a2 : nI (5 * j) + (2 : Int32) = nI (5 * j + 2) := nI_add _ 2
  have a3 : nI (5 * j) + (3 : Int32) = nI (5 * j + 3) := nI_add _ 3
  have a4 : nI (5 * j) + (4 : Int32) = nI (5 * j + 4) := nI_add _ 4
  obtain ⟨m2, e, h2⟩ := body_ok (i := nI (5 * j)) hi (sR_e xs hL (by omega)) (by rw [a1]; exact sR_e xs hL (by omega)) (by rw [a2]; exact sR_e xs hL (by omega)) (by rw [a3]; exact sR_e xs hL (by omega)) (by rw [a4]; exact sR_e xs hL (by omega))
  exact ⟨HH m2, e, rfl, rfl, rfl, m2, rfl, h2⟩
