/-! how the class numbers triples -/
/-- a loop that adds to a list -/
theorem loopA {α : Type} (L : Nat → Int32 → Hp → Option Hp) (n B lo : Nat) (g : Nat → List α) (R : List α → Mem → Prop)
    (stop : ∀ fuel m l, R l m → L (fuel + 1) (nI n) (HH m) = some (HH m))
    (step : ∀ fuel x m l, lo ≤ x → x < n → R l m → (l ++ g x).length ≤ B → ∃ m1, L (fuel + 1) (nI x) (HH m) = L fuel (nI (x + 1)) (HH m1) ∧ R (l ++ g x) m1) :
    ∀ d x m l fuel, lo ≤ x → x + d = n → d < fuel → R l m → (l ++ (List.range' x d).flatMap g).length ≤ B → ∃ m1, L fuel (nI x) (HH m) = some (HH m1) ∧ R (l ++ (List.range' x d).flatMap g) m1 := by
  intro d
  induction d with
  | zero =>
    intro x m l fuel hlo hd hf hR hB
    obtain ⟨f, rfl⟩ : ∃ f, fuel = f + 1 := ⟨fuel - 1, by omega⟩
    have e : x = n := by omega
    subst e
    refine ⟨m, stop f m l hR, ?_⟩
    have : l ++ (List.range' x 0).flatMap g = l := by simp
    rw [this]
    exact hR
  | succ d ih =>
    intro x m l fuel hlo hd hf hR hB
    obtain ⟨f, rfl⟩ : ∃ f, fuel = f + 1 := ⟨fuel - 1, by omega⟩
    have e : l ++ (List.range' x (d + 1)).flatMap g = (l ++ g x) ++ (List.range' (x + 1) d).flatMap g := by
      rw [List.range'_succ]
      simp
    rw [e] at hB ⊢
    have hB2 : (l ++ g x).length ≤ B := by
      rw [List.length_append] at hB
      omega
    obtain ⟨m1, e1, R1⟩ := step f x m l hlo (by omega) hR hB2
    obtain ⟨m2, e2, R2⟩ := ih (x + 1) m1 (l ++ g x) f (by omega) (by omega) (by omega) R1 hB
    exact ⟨m2, e1.trans e2, R2⟩
def cw (l : List (Nat × Nat × Nat)) (t w : Nat) : Nat := match l[t]? with
  | none => 0
  | some (i, j, k) => if w = 0 then i else if w = 1 then j else k
def lxp (l : List (Nat × Nat × Nat)) (x : Nat × Nat × Nat) : Nat × Nat := l.foldl (fun p z => (p.1 + 1, if z = x then p.1 else p.2)) (0, 0)
def lx (l : List (Nat × Nat × Nat)) (x : Nat × Nat × Nat) : Nat := (lxp l x).2
theorem lxp_a (l : List (Nat × Nat × Nat)) (z x : Nat × Nat × Nat) : lxp (l ++ [z]) x = ((lxp l x).1 + 1, if z = x then (lxp l x).1 else (lxp l x).2) := by
  unfold lxp
  rw [List.foldl_append]
  rfl
theorem fold_len (x : Nat × Nat × Nat) : ∀ (l : List (Nat × Nat × Nat)) (p : Nat × Nat), (l.foldl (fun p z => (p.1 + 1, if z = x then p.1 else p.2)) p).1 = p.1 + l.length := by
  intro l
  induction l with
  | nil => intro p; rfl
  | cons z l ih =>
    intro p
    rw [List.foldl_cons, ih, List.length_cons]
    show p.1 + 1 + l.length = _
    omega
theorem lx_a (l : List (Nat × Nat × Nat)) (z x : Nat × Nat × Nat) : lx (l ++ [z]) x = if z = x then l.length else lx l x := by
  unfold lx
  rw [lxp_a]
  have : (lxp l x).1 = l.length := by
    have := fold_len x l (0, 0)
    unfold lxp
    rw [this]
    show 0 + l.length = _
    omega
  show (if z = x then (lxp l x).1 else (lxp l x).2) = _
  rw [this]
theorem cw_l {l : List (Nat × Nat × Nat)} {x : Nat × Nat × Nat} {t : Nat} (h : t < l.length) (w : Nat) : cw (l ++ [x]) t w = cw l t w := by
  unfold cw
  rw [List.getElem?_append_left h]
theorem cw_r (l : List (Nat × Nat × Nat)) (i j k w : Nat) : cw (l ++ [(i, j, k)]) l.length w = if w = 0 then i else if w = 1 then j else k := by
  unfold cw
  simp
def srt (a b c : Nat) : Nat × Nat × Nat := if a < b then (if b < c then (a, b, c) else if a < c then (a, c, b) else (c, a, b)) else (if a < c then (b, a, c) else if b < c then (b, c, a) else (c, b, a))
def cA (a : Nat) : Prop := 1 ≤ a ∧ a ≤ 8
def RT (n : Nat) (l : List (Nat × Nat × Nat)) (m : Mem) : Prop := m.I 1 0 = nI n ∧ m.I 1 1 = nI l.length ∧ LZ m ∧
  (∀ t w, t < l.length → w < 3 → m.I 2 (t * 3 + w) = nI (cw l t w)) ∧
  (∀ a b c, a < 8 → b < 8 → c < 8 → a ≠ b → a ≠ c → b ≠ c → srt a b c ∈ l → m.I 3 ((a * 8 + b) * 8 + c) = nI (lx l (srt a b c)) ∧ m.I 4 ((a * 8 + b) * 8 + c) = par a b c)
theorem c_ent {m : Mem} {T a b c : Nat} (hT : m.I 1 1 = nI T) (ha : a < 8) (hb : b < 8) (hc : c < 8) (v : Int32) : ∃ m1, f_X0_enter 1 (nI a) (nI b) (nI c) v (HH m) = some (HH m1) ∧ m1.I 3 = upd (m.I 3) ((a * 8 + b) * 8 + c) (nI T) ∧ m1.I 4 = upd (m.I 4) ((a * 8 + b) * 8 + c) v ∧ (∀ x, x ≠ 3 → x ≠ 4 → m1.I x = m.I x) ∧ Fr cA m m1 := by
  refine ⟨(m.sI 3 ((a * 8 + b) * 8 + c) (nI T)).sI 4 ((a * 8 + b) * 8 + c) v, ?_, rfl, rfl, fun x h3 h4 => ?_, Fr_sI (Fr_sI (Fr_rf _ m) ⟨by omega, by omega⟩) ⟨by omega, by omega⟩⟩
  · simp (disch := omega) only [f_X0_enter, f_X0_spot, show (8 : Int32) = nI 8 from rfl, pk_mul, nI_add, o_0, g_0_0, g_0_1, g_0_2, g_0_3, g_0_4, p_0_4, g_0_5, g_0_6, g_0_7, g_0_8, g_0_9, g_0_10, g_0_11, o_1, g_1_0, p_1_0, g_1_1, p_1_1, g_1_2, p_1_2, g_1_3, g_1_4, g_1_5, g_1_6, g_1_7, g_1_8, g_1_9, r_2, w_2, r_3, w_3, r_4, w_4, r_5, w_5, r_6, w_6, r_7, w_7, r_8, w_8, o_9, g_9_0, p_9_0, g_9_1, p_9_1, g_9_2, p_9_2, g_9_3, g_9_4, g_9_5, g_9_6, g_9_7, g_9_8, g_9_9, r_10, w_10, r_11, w_11, r_12, w_12, r_13, w_13, r_14, w_14, r_15, w_15, r_16, w_16, o_17, g_17_0, g_17_1, p_17_1, g_17_2, g_17_3, g_17_4, p_17_4, r_18, w_18, r_19, w_19, r_20, w_20, r_22, w_22, r_23, w_23, r_24, w_24, r_25, w_25, r_26, w_26, r_27, w_27, r_28, w_28, o_29, g_29_0, p_29_0, g_29_1, p_29_1, g_29_2, p_29_2, g_29_3, g_29_4, g_29_5, g_29_6, g_29_7, g_29_8, g_29_9, r_30, w_30, r_31, w_31, r_32, w_32, r_33, w_33, r_34, w_34, r_35, w_35, r_36, w_36, o_37, g_37_0, p_37_0, g_37_1, p_37_1, g_37_2, p_37_2, g_37_3, g_37_4, g_37_5, g_37_6, g_37_7, g_37_8, g_37_9, r_38, w_38, r_39, w_39, r_40, w_40, r_41, w_41, r_42, w_42, r_43, w_43, r_44, w_44, o_45, g_45_0, p_45_0, g_45_1, p_45_1, g_45_2, p_45_2, g_45_3, g_45_4, g_45_5, g_45_6, g_45_7, g_45_8, g_45_9, r_46, w_46, r_47, w_47, r_48, w_48, r_49, w_49, r_50, w_50, r_51, w_51, r_52, w_52, o_53, g_53_0, p_53_0, g_53_1, p_53_1, g_53_2, p_53_2, g_53_3, g_53_4, g_53_5, g_53_6, g_53_7, g_53_8, g_53_9, r_54, w_54, r_55, w_55, r_56, w_56, r_57, w_57, r_58, w_58, r_59, w_59, r_60, w_60, o_61, g_61_0, g_61_1, g_61_2, g_61_3, p_61_3, g_61_4, g_61_5, p_61_5, g_61_6, p_61_6, g_61_7, g_61_8, g_61_9, p_61_9, g_61_10, g_61_11, p_61_11, g_61_12, p_61_12, g_61_13, g_61_14, g_61_15, g_61_16, g_61_17, g_61_18, g_61_19, g_61_20, p_61_20, g_61_21, p_61_21, g_61_22, g_61_23, p_61_23, r_62, w_62, r_63, w_63, r_64, w_64, r_65, w_65, r_66, w_66, r_67, w_67, r_68, w_68, r_69, w_69, r_70, w_70, r_71, w_71, r_72, w_72, r_73, w_73, r_74, w_74, r_75, w_75, r_76, w_76, r_77, w_77, Option.bind_some, hT]
  · rw [sI_I, if_neg h4, sI_I, if_neg h3]
theorem srt_6 {i j k : Nat} (h1 : i < j) (h2 : j < k) : srt i j k = (i, j, k) ∧ srt j k i = (i, j, k) ∧ srt k i j = (i, j, k) ∧ srt i k j = (i, j, k) ∧ srt k j i = (i, j, k) ∧ srt j i k = (i, j, k) := by
  unfold srt
  refine ⟨?_, ?_, ?_, ?_, ?_, ?_⟩
  · rw [if_pos h1, if_pos h2]
  · rw [if_pos h2, if_neg (by omega), if_neg (by omega)]
  · rw [if_neg (by omega), if_neg (by omega), if_pos (by omega)]
  · rw [if_pos (by omega), if_neg (by omega), if_pos (by omega)]
  · rw [if_neg (by omega), if_neg (by omega), if_neg (by omega)]
  · rw [if_neg (by omega), if_pos (by omega)]
theorem srt_of {a b c i j k : Nat} (h : srt a b c = (i, j, k)) : (a = i ∧ b = j ∧ c = k) ∨ (a = j ∧ b = k ∧ c = i) ∨ (a = k ∧ b = i ∧ c = j) ∨ (a = i ∧ b = k ∧ c = j) ∨ (a = k ∧ b = j ∧ c = i) ∨ (a = j ∧ b = i ∧ c = k) := by
  unfold srt at h
  (repeat' split at h) <;> simp only [Prod.mk.injEq] at h <;> omega
theorem c_addT {n : Nat} {l : List (Nat × Nat × Nat)} {m : Mem} (hR : RT n l m) (hl : l.length < 56) {i j k : Nat} (h1 : i < j) (h2 : j < k) (h3 : k < 8) : ∃ m1, f_X0_addTriple 1 (nI i) (nI j) (nI k) (HH m) = some (HH m1) ∧ RT n (l ++ [(i, j, k)]) m1 ∧ Fr cA m m1 := by
  obtain ⟨a0, a1, az, a2, a3⟩ := hR
  obtain ⟨m0, em0⟩ : ∃ m0, m0 = ((m.sI 2 (l.length * 3) (nI i)).sI 2 (l.length * 3 + 1) (nI j)).sI 2 (l.length * 3 + 2) (nI k) := ⟨_, rfl⟩
  have b1 : m0.I 1 = m.I 1 := by rw [em0]; rfl
  have b2 : m0.I 2 = upd (upd (upd (m.I 2) (l.length * 3) (nI i)) (l.length * 3 + 1) (nI j)) (l.length * 3 + 2) (nI k) := by rw [em0]; rfl
  have b3 : m0.I 3 = m.I 3 := by rw [em0]; rfl
  have b4 : m0.I 4 = m.I 4 := by rw [em0]; rfl
  have f0 : Fr cA m m0 := by rw [em0]; exact Fr_sI (Fr_sI (Fr_sI (Fr_rf _ m) ⟨by omega, by omega⟩) ⟨by omega, by omega⟩) ⟨by omega, by omega⟩
  have t0 : m0.I 1 1 = nI l.length := by rw [b1]; exact a1
  obtain ⟨m1, e1, p1, q1, o1, f1⟩ := c_ent t0 (show i < 8 by omega) (show j < 8 by omega) h3 1
  have t1 : m1.I 1 1 = nI l.length := by rw [o1 1 (by omega) (by omega)]; exact t0
  obtain ⟨m2, e2, p2, q2, o2, f2⟩ := c_ent t1 (show j < 8 by omega) h3 (show i < 8 by omega) 1
  have t2 : m2.I 1 1 = nI l.length := by rw [o2 1 (by omega) (by omega)]; exact t1
  obtain ⟨m3, e3, p3, q3, o3, f3⟩ := c_ent t2 h3 (show i < 8 by omega) (show j < 8 by omega) 1
  have t3 : m3.I 1 1 = nI l.length := by rw [o3 1 (by omega) (by omega)]; exact t2
  obtain ⟨m4, e4, p4, q4, o4, f4⟩ := c_ent t3 (show i < 8 by omega) h3 (show j < 8 by omega) (-1)
  have t4 : m4.I 1 1 = nI l.length := by rw [o4 1 (by omega) (by omega)]; exact t3
  obtain ⟨m5, e5, p5, q5, o5, f5⟩ := c_ent t4 h3 (show j < 8 by omega) (show i < 8 by omega) (-1)
  have t5 : m5.I 1 1 = nI l.length := by rw [o5 1 (by omega) (by omega)]; exact t4
  obtain ⟨m6, e6, p6, q6, o6, f6⟩ := c_ent t5 (show j < 8 by omega) (show i < 8 by omega) h3 (-1)
  have t6 : m6.I 1 1 = nI l.length := by rw [o6 1 (by omega) (by omega)]; exact t5
  have o : ∀ x, x ≠ 3 → x ≠ 4 → m6.I x = m0.I x := fun x h3 h4 => by rw [o6 x h3 h4, o5 x h3 h4, o4 x h3 h4, o3 x h3 h4, o2 x h3 h4, o1 x h3 h4]
  have z3 : (m6.sI 1 1 (nI (l.length + 1))).I 3 = upd (upd (upd (upd (upd (upd (m.I 3) ((i * 8 + j) * 8 + k) (nI l.length)) ((j * 8 + k) * 8 + i) (nI l.length)) ((k * 8 + i) * 8 + j) (nI l.length)) ((i * 8 + k) * 8 + j) (nI l.length)) ((k * 8 + j) * 8 + i) (nI l.length)) ((j * 8 + i) * 8 + k) (nI l.length) := by
    rw [sI_I, if_neg (by omega), p6, p5, p4, p3, p2, p1, b3]
  have z4 : (m6.sI 1 1 (nI (l.length + 1))).I 4 = upd (upd (upd (upd (upd (upd (m.I 4) ((i * 8 + j) * 8 + k) 1) ((j * 8 + k) * 8 + i) 1) ((k * 8 + i) * 8 + j) 1) ((i * 8 + k) * 8 + j) (-1)) ((k * 8 + j) * 8 + i) (-1)) ((j * 8 + i) * 8 + k) (-1) := by
    rw [sI_I, if_neg (by omega), q6, q5, q4, q3, q2, q1, b4]
  have z2 : (m6.sI 1 1 (nI (l.length + 1))).I 2 = m0.I 2 := by rw [sI_I, if_neg (by omega), o 2 (by omega) (by omega)]
  refine ⟨m6.sI 1 1 (nI (l.length + 1)), ?_, ⟨?_, ?_, ?_, ?_, ?_⟩, Fr_sI (Fr_tr f0 (Fr_tr f1 (Fr_tr f2 (Fr_tr f3 (Fr_tr f4 (Fr_tr f5 f6)))))) ⟨by omega, by omega⟩⟩
  · simp (disch := omega) only [f_X0_addTriple, show (3 : Int32) = nI 3 from rfl, pk_mul, add_1, add_2, o_0, g_0_0, g_0_1, g_0_2, g_0_3, g_0_4, p_0_4, g_0_5, g_0_6, g_0_7, g_0_8, g_0_9, g_0_10, g_0_11, o_1, g_1_0, p_1_0, g_1_1, p_1_1, g_1_2, p_1_2, g_1_3, g_1_4, g_1_5, g_1_6, g_1_7, g_1_8, g_1_9, r_2, w_2, r_3, w_3, r_4, w_4, r_5, w_5, r_6, w_6, r_7, w_7, r_8, w_8, o_9, g_9_0, p_9_0, g_9_1, p_9_1, g_9_2, p_9_2, g_9_3, g_9_4, g_9_5, g_9_6, g_9_7, g_9_8, g_9_9, r_10, w_10, r_11, w_11, r_12, w_12, r_13, w_13, r_14, w_14, r_15, w_15, r_16, w_16, o_17, g_17_0, g_17_1, p_17_1, g_17_2, g_17_3, g_17_4, p_17_4, r_18, w_18, r_19, w_19, r_20, w_20, r_22, w_22, r_23, w_23, r_24, w_24, r_25, w_25, r_26, w_26, r_27, w_27, r_28, w_28, o_29, g_29_0, p_29_0, g_29_1, p_29_1, g_29_2, p_29_2, g_29_3, g_29_4, g_29_5, g_29_6, g_29_7, g_29_8, g_29_9, r_30, w_30, r_31, w_31, r_32, w_32, r_33, w_33, r_34, w_34, r_35, w_35, r_36, w_36, o_37, g_37_0, p_37_0, g_37_1, p_37_1, g_37_2, p_37_2, g_37_3, g_37_4, g_37_5, g_37_6, g_37_7, g_37_8, g_37_9, r_38, w_38, r_39, w_39, r_40, w_40, r_41, w_41, r_42, w_42, r_43, w_43, r_44, w_44, o_45, g_45_0, p_45_0, g_45_1, p_45_1, g_45_2, p_45_2, g_45_3, g_45_4, g_45_5, g_45_6, g_45_7, g_45_8, g_45_9, r_46, w_46, r_47, w_47, r_48, w_48, r_49, w_49, r_50, w_50, r_51, w_51, r_52, w_52, o_53, g_53_0, p_53_0, g_53_1, p_53_1, g_53_2, p_53_2, g_53_3, g_53_4, g_53_5, g_53_6, g_53_7, g_53_8, g_53_9, r_54, w_54, r_55, w_55, r_56, w_56, r_57, w_57, r_58, w_58, r_59, w_59, r_60, w_60, o_61, g_61_0, g_61_1, g_61_2, g_61_3, p_61_3, g_61_4, g_61_5, p_61_5, g_61_6, p_61_6, g_61_7, g_61_8, g_61_9, p_61_9, g_61_10, g_61_11, p_61_11, g_61_12, p_61_12, g_61_13, g_61_14, g_61_15, g_61_16, g_61_17, g_61_18, g_61_19, g_61_20, p_61_20, g_61_21, p_61_21, g_61_22, g_61_23, p_61_23, r_62, w_62, r_63, w_63, r_64, w_64, r_65, w_65, r_66, w_66, r_67, w_67, r_68, w_68, r_69, w_69, r_70, w_70, r_71, w_71, r_72, w_72, r_73, w_73, r_74, w_74, r_75, w_75, r_76, w_76, r_77, w_77, Option.bind_some, a1]
    rw [← em0]
    simp only [e1, e2, e3, e4, e5, e6, o_0, g_0_0, g_0_1, g_0_2, g_0_3, g_0_4, p_0_4, g_0_5, g_0_6, g_0_7, g_0_8, g_0_9, g_0_10, g_0_11, o_1, g_1_0, p_1_0, g_1_1, p_1_1, g_1_2, p_1_2, g_1_3, g_1_4, g_1_5, g_1_6, g_1_7, g_1_8, g_1_9, r_2, w_2, r_3, w_3, r_4, w_4, r_5, w_5, r_6, w_6, r_7, w_7, r_8, w_8, o_9, g_9_0, p_9_0, g_9_1, p_9_1, g_9_2, p_9_2, g_9_3, g_9_4, g_9_5, g_9_6, g_9_7, g_9_8, g_9_9, r_10, w_10, r_11, w_11, r_12, w_12, r_13, w_13, r_14, w_14, r_15, w_15, r_16, w_16, o_17, g_17_0, g_17_1, p_17_1, g_17_2, g_17_3, g_17_4, p_17_4, r_18, w_18, r_19, w_19, r_20, w_20, r_22, w_22, r_23, w_23, r_24, w_24, r_25, w_25, r_26, w_26, r_27, w_27, r_28, w_28, o_29, g_29_0, p_29_0, g_29_1, p_29_1, g_29_2, p_29_2, g_29_3, g_29_4, g_29_5, g_29_6, g_29_7, g_29_8, g_29_9, r_30, w_30, r_31, w_31, r_32, w_32, r_33, w_33, r_34, w_34, r_35, w_35, r_36, w_36, o_37, g_37_0, p_37_0, g_37_1, p_37_1, g_37_2, p_37_2, g_37_3, g_37_4, g_37_5, g_37_6, g_37_7, g_37_8, g_37_9, r_38, w_38, r_39, w_39, r_40, w_40, r_41, w_41, r_42, w_42, r_43, w_43, r_44, w_44, o_45, g_45_0, p_45_0, g_45_1, p_45_1, g_45_2, p_45_2, g_45_3, g_45_4, g_45_5, g_45_6, g_45_7, g_45_8, g_45_9, r_46, w_46, r_47, w_47, r_48, w_48, r_49, w_49, r_50, w_50, r_51, w_51, r_52, w_52, o_53, g_53_0, p_53_0, g_53_1, p_53_1, g_53_2, p_53_2, g_53_3, g_53_4, g_53_5, g_53_6, g_53_7, g_53_8, g_53_9, r_54, w_54, r_55, w_55, r_56, w_56, r_57, w_57, r_58, w_58, r_59, w_59, r_60, w_60, o_61, g_61_0, g_61_1, g_61_2, g_61_3, p_61_3, g_61_4, g_61_5, p_61_5, g_61_6, p_61_6, g_61_7, g_61_8, g_61_9, p_61_9, g_61_10, g_61_11, p_61_11, g_61_12, p_61_12, g_61_13, g_61_14, g_61_15, g_61_16, g_61_17, g_61_18, g_61_19, g_61_20, p_61_20, g_61_21, p_61_21, g_61_22, g_61_23, p_61_23, r_62, w_62, r_63, w_63, r_64, w_64, r_65, w_65, r_66, w_66, r_67, w_67, r_68, w_68, r_69, w_69, r_70, w_70, r_71, w_71, r_72, w_72, r_73, w_73, r_74, w_74, r_75, w_75, r_76, w_76, r_77, w_77, Option.bind_some, t6, add_1]
  · rw [sI_at, if_neg (by omega), o 1 (by omega) (by omega), b1]
    exact a0
  · rw [sI_at, if_pos rfl, List.length_append]
    rfl
  · intro a b c ha hb hc h
    have ne : ∀ x y z, x < 8 → y < 8 → z < 8 → x ≠ y → x ≠ z → y ≠ z → ¬ (a * 8 + b) * 8 + c = (x * 8 + y) * 8 + z := by
      intro x y z hx hy hz n1 n2 n3 e
      have e1 : a = x := by omega
      have e2 : b = y := by omega
      have e3 : c = z := by omega
      omega
    rw [z4, upd_g, upd_g, upd_g, upd_g, upd_g, upd_g, if_neg (ne _ _ _ (by omega) (by omega) (by omega) (by omega) (by omega) (by omega)), if_neg (ne _ _ _ (by omega) (by omega) (by omega) (by omega) (by omega) (by omega)), if_neg (ne _ _ _ (by omega) (by omega) (by omega) (by omega) (by omega) (by omega)), if_neg (ne _ _ _ (by omega) (by omega) (by omega) (by omega) (by omega) (by omega)), if_neg (ne _ _ _ (by omega) (by omega) (by omega) (by omega) (by omega) (by omega)), if_neg (ne _ _ _ (by omega) (by omega) (by omega) (by omega) (by omega) (by omega))]
    exact az a b c ha hb hc h
  · intro t w ht hw
    rw [List.length_append] at ht
    have ht : t < l.length + 1 := ht
    rw [z2, b2, upd_g, upd_g, upd_g]
    by_cases c : t = l.length
    · subst c
      rw [cw_r]
      have : w = 0 ∨ w = 1 ∨ w = 2 := by omega
      rcases this with rfl | rfl | rfl
      · rw [if_neg (by omega), if_neg (by omega), if_pos (by omega), if_pos rfl]
      · rw [if_neg (by omega), if_pos (by omega), if_neg (by omega), if_pos rfl]
      · rw [if_pos (by omega), if_neg (by omega), if_neg (by omega)]
    · rw [if_neg (by omega), if_neg (by omega), if_neg (by omega), cw_l (by omega)]
      exact a2 t w (by omega) hw
  · intro a b c ha hb hc n1 n2 n3 hm
    rw [z3, z4, lx_a]
    by_cases cs : srt a b c = (i, j, k)
    · rw [if_pos cs.symm]
      rcases srt_of cs with ⟨rfl, rfl, rfl⟩ | ⟨rfl, rfl, rfl⟩ | ⟨rfl, rfl, rfl⟩ | ⟨rfl, rfl, rfl⟩ | ⟨rfl, rfl, rfl⟩ | ⟨rfl, rfl, rfl⟩
      · unfold par
        refine ⟨?_, ?_⟩
        · rw [upd_g, if_neg (by omega), upd_g, if_neg (by omega), upd_g, if_neg (by omega), upd_g, if_neg (by omega), upd_g, if_neg (by omega), upd_g, if_pos rfl]
        · rw [upd_g, if_neg (by omega), upd_g, if_neg (by omega), upd_g, if_neg (by omega), upd_g, if_neg (by omega), upd_g, if_neg (by omega), upd_g, if_pos rfl]
          (repeat' split) <;> first | rfl | omega
      · unfold par
        refine ⟨?_, ?_⟩
        · rw [upd_g, if_neg (by omega), upd_g, if_neg (by omega), upd_g, if_neg (by omega), upd_g, if_neg (by omega), upd_g, if_pos rfl]
        · rw [upd_g, if_neg (by omega), upd_g, if_neg (by omega), upd_g, if_neg (by omega), upd_g, if_neg (by omega), upd_g, if_pos rfl]
          (repeat' split) <;> first | rfl | omega
      · unfold par
        refine ⟨?_, ?_⟩
        · rw [upd_g, if_neg (by omega), upd_g, if_neg (by omega), upd_g, if_neg (by omega), upd_g, if_pos rfl]
        · rw [upd_g, if_neg (by omega), upd_g, if_neg (by omega), upd_g, if_neg (by omega), upd_g, if_pos rfl]
          (repeat' split) <;> first | rfl | omega
      · unfold par
        refine ⟨?_, ?_⟩
        · rw [upd_g, if_neg (by omega), upd_g, if_neg (by omega), upd_g, if_pos rfl]
        · rw [upd_g, if_neg (by omega), upd_g, if_neg (by omega), upd_g, if_pos rfl]
          (repeat' split) <;> first | rfl | omega
      · unfold par
        refine ⟨?_, ?_⟩
        · rw [upd_g, if_neg (by omega), upd_g, if_pos rfl]
        · rw [upd_g, if_neg (by omega), upd_g, if_pos rfl]
          (repeat' split) <;> first | rfl | omega
      · unfold par
        refine ⟨?_, ?_⟩
        · rw [upd_g, if_pos rfl]
        · rw [upd_g, if_pos rfl]
          (repeat' split) <;> first | rfl | omega
    · obtain ⟨s1, s2, s3, s4, s5, s6⟩ := srt_6 h1 h2
      have ne : ∀ x y z, x < 8 → y < 8 → z < 8 → srt x y z = (i, j, k) → ¬ (a * 8 + b) * 8 + c = (x * 8 + y) * 8 + z := by
        intro x y z hx hy hz hs e
        have e1 : a = x := by omega
        have e2 : b = y := by omega
        have e3 : c = z := by omega
        rw [e1, e2, e3] at cs
        exact cs hs
      rw [if_neg (fun e => cs e.symm)]
      rw [upd_g, if_neg (ne _ _ _ (by omega) (by omega) (by omega) s6), upd_g, if_neg (ne _ _ _ (by omega) (by omega) (by omega) s5), upd_g, if_neg (ne _ _ _ (by omega) (by omega) (by omega) s4), upd_g, if_neg (ne _ _ _ (by omega) (by omega) (by omega) s3), upd_g, if_neg (ne _ _ _ (by omega) (by omega) (by omega) s2), upd_g, if_neg (ne _ _ _ (by omega) (by omega) (by omega) s1)]
      rw [upd_g, if_neg (ne _ _ _ (by omega) (by omega) (by omega) s6), upd_g, if_neg (ne _ _ _ (by omega) (by omega) (by omega) s5), upd_g, if_neg (ne _ _ _ (by omega) (by omega) (by omega) s4), upd_g, if_neg (ne _ _ _ (by omega) (by omega) (by omega) s3), upd_g, if_neg (ne _ _ _ (by omega) (by omega) (by omega) s2), upd_g, if_neg (ne _ _ _ (by omega) (by omega) (by omega) s1)]
      refine a3 a b c ha hb hc n1 n2 n3 ?_
      rcases List.mem_append.mp hm with h | h
      · exact h
      · exact absurd (List.mem_singleton.mp h) cs
def tK (n i j : Nat) : List (Nat × Nat × Nat) := (List.range' (j + 1) (n - (j + 1))).flatMap fun k => [(i, j, k)]
def tJ (n i : Nat) : List (Nat × Nat × Nat) := (List.range' (i + 1) (n - (i + 1))).flatMap fun j => tK n i j
def tI (n : Nat) : List (Nat × Nat × Nat) := (List.range' 0 n).flatMap fun i => tJ n i
theorem tI_e {n : Nat} (hn : n38 n) : tI n = trips n := n38_cases (P := fun n => tI n = trips n) (by decide +kernel) hn
theorem c_arrT {n : Nat} (hn : n38 n) {m : Mem} (hn0 : m.I 1 0 = nI n) (hz : LZ m) : ∃ m1, f_X0_arrangeTriples 1 (HH m) = some (HH m1) ∧ RT n (trips n) m1 ∧ Fr cA m m1 := by
  have h8 := hn.2
  have hB : (tI n).length ≤ 56 := by rw [tI_e hn]; exact nT_le hn
  have R0 : RT n [] (m.sI 1 1 0) ∧ Fr cA m (m.sI 1 1 0) := ⟨⟨hn0, rfl, hz, fun t w ht => absurd ht (Nat.not_lt_zero t), fun a b c _ _ _ _ _ _ h => absurd h (by simp)⟩, Fr_sI (Fr_rf _ m) ⟨by omega, by omega⟩⟩
  have inK : ∀ i j, i < j → j < n → ∀ m1 l, (RT n l m1 ∧ Fr cA m m1) → (l ++ tK n i j).length ≤ 56 → ∃ m2, l_X0_arrangeTriples_31 1 (nI i) (nI j) FU (nI (j + 1)) (HH m1) = some (HH m2) ∧ RT n (l ++ tK n i j) m2 ∧ Fr cA m m2 := by
    intro i j hij hj m1 l hR hlen
    refine loopA (α := Nat × Nat × Nat) (fun fuel x h => l_X0_arrangeTriples_31 1 (nI i) (nI j) fuel x h) n 56 (j + 1) (fun k => [(i, j, k)]) (fun l m1 => RT n l m1 ∧ Fr cA m m1) ?_ ?_ (n - (j + 1)) (j + 1) m1 l FU (Nat.le_refl _) (by omega) (FUx (by omega)) hR hlen
    · intro fuel m1 l hR
      simp (disch := omega) only [l_X0_arrangeTriples_31, o_0, g_0_0, g_0_1, g_0_2, g_0_3, g_0_4, g_0_5, g_0_6, g_0_7, g_0_8, g_0_9, g_0_10, g_0_11, o_1, g_1_0, g_1_1, g_1_2, g_1_3, g_1_4, g_1_5, g_1_6, g_1_7, g_1_8, g_1_9, r_2, r_3, r_4, r_5, r_6, r_7, r_8, o_9, g_9_0, g_9_1, g_9_2, g_9_3, g_9_4, g_9_5, g_9_6, g_9_7, g_9_8, g_9_9, r_10, r_11, r_12, r_13, r_14, r_15, r_16, o_17, g_17_0, g_17_1, g_17_2, g_17_3, g_17_4, r_18, r_19, r_20, r_22, r_23, r_24, r_25, r_26, r_27, r_28, o_29, g_29_0, g_29_1, g_29_2, g_29_3, g_29_4, g_29_5, g_29_6, g_29_7, g_29_8, g_29_9, r_30, r_31, r_32, r_33, r_34, r_35, r_36, o_37, g_37_0, g_37_1, g_37_2, g_37_3, g_37_4, g_37_5, g_37_6, g_37_7, g_37_8, g_37_9, r_38, r_39, r_40, r_41, r_42, r_43, r_44, o_45, g_45_0, g_45_1, g_45_2, g_45_3, g_45_4, g_45_5, g_45_6, g_45_7, g_45_8, g_45_9, r_46, r_47, r_48, r_49, r_50, r_51, r_52, o_53, g_53_0, g_53_1, g_53_2, g_53_3, g_53_4, g_53_5, g_53_6, g_53_7, g_53_8, g_53_9, r_54, r_55, r_56, r_57, r_58, r_59, r_60, o_61, g_61_0, g_61_1, g_61_2, g_61_3, g_61_4, g_61_5, g_61_6, g_61_7, g_61_8, g_61_9, g_61_10, g_61_11, g_61_12, g_61_13, g_61_14, g_61_15, g_61_16, g_61_17, g_61_18, g_61_19, g_61_20, g_61_21, g_61_22, g_61_23, r_62, r_63, r_64, r_65, r_66, r_67, r_68, r_69, r_70, r_71, r_72, r_73, r_74, r_75, r_76, r_77, Option.bind_some, hR.1.1, leN, if_pos (Nat.le_refl n)]
    · intro fuel k m1 l hlo hk hR hlen
      rw [List.length_append] at hlen
      have hlen : l.length + 1 ≤ 56 := hlen
      obtain ⟨m2, e2, R2, f2⟩ := c_addT hR.1 (by omega) hij (show j < k by omega) (show k < 8 by omega)
      refine ⟨m2, ?_, R2, Fr_tr hR.2 f2⟩
      simp (disch := omega) only [l_X0_arrangeTriples_31, o_0, g_0_0, g_0_1, g_0_2, g_0_3, g_0_4, g_0_5, g_0_6, g_0_7, g_0_8, g_0_9, g_0_10, g_0_11, o_1, g_1_0, g_1_1, g_1_2, g_1_3, g_1_4, g_1_5, g_1_6, g_1_7, g_1_8, g_1_9, r_2, r_3, r_4, r_5, r_6, r_7, r_8, o_9, g_9_0, g_9_1, g_9_2, g_9_3, g_9_4, g_9_5, g_9_6, g_9_7, g_9_8, g_9_9, r_10, r_11, r_12, r_13, r_14, r_15, r_16, o_17, g_17_0, g_17_1, g_17_2, g_17_3, g_17_4, r_18, r_19, r_20, r_22, r_23, r_24, r_25, r_26, r_27, r_28, o_29, g_29_0, g_29_1, g_29_2, g_29_3, g_29_4, g_29_5, g_29_6, g_29_7, g_29_8, g_29_9, r_30, r_31, r_32, r_33, r_34, r_35, r_36, o_37, g_37_0, g_37_1, g_37_2, g_37_3, g_37_4, g_37_5, g_37_6, g_37_7, g_37_8, g_37_9, r_38, r_39, r_40, r_41, r_42, r_43, r_44, o_45, g_45_0, g_45_1, g_45_2, g_45_3, g_45_4, g_45_5, g_45_6, g_45_7, g_45_8, g_45_9, r_46, r_47, r_48, r_49, r_50, r_51, r_52, o_53, g_53_0, g_53_1, g_53_2, g_53_3, g_53_4, g_53_5, g_53_6, g_53_7, g_53_8, g_53_9, r_54, r_55, r_56, r_57, r_58, r_59, r_60, o_61, g_61_0, g_61_1, g_61_2, g_61_3, g_61_4, g_61_5, g_61_6, g_61_7, g_61_8, g_61_9, g_61_10, g_61_11, g_61_12, g_61_13, g_61_14, g_61_15, g_61_16, g_61_17, g_61_18, g_61_19, g_61_20, g_61_21, g_61_22, g_61_23, r_62, r_63, r_64, r_65, r_66, r_67, r_68, r_69, r_70, r_71, r_72, r_73, r_74, r_75, r_76, r_77, Option.bind_some, hR.1.1, leN, if_neg (show ¬ n ≤ k by omega), e2, add1]
  have inJ : ∀ i, i < n → ∀ m1 l, (RT n l m1 ∧ Fr cA m m1) → (l ++ tJ n i).length ≤ 56 → ∃ m2, l_X0_arrangeTriples_19 1 (nI i) FU (nI (i + 1)) (HH m1) = some (HH m2) ∧ RT n (l ++ tJ n i) m2 ∧ Fr cA m m2 := by
    intro i hi m1 l hR hlen
    refine loopA (α := Nat × Nat × Nat) (fun fuel x h => l_X0_arrangeTriples_19 1 (nI i) fuel x h) n 56 (i + 1) (fun j => tK n i j) (fun l m1 => RT n l m1 ∧ Fr cA m m1) ?_ ?_ (n - (i + 1)) (i + 1) m1 l FU (Nat.le_refl _) (by omega) (FUx (by omega)) hR hlen
    · intro fuel m1 l hR
      simp (disch := omega) only [l_X0_arrangeTriples_19, o_0, g_0_0, g_0_1, g_0_2, g_0_3, g_0_4, g_0_5, g_0_6, g_0_7, g_0_8, g_0_9, g_0_10, g_0_11, o_1, g_1_0, g_1_1, g_1_2, g_1_3, g_1_4, g_1_5, g_1_6, g_1_7, g_1_8, g_1_9, r_2, r_3, r_4, r_5, r_6, r_7, r_8, o_9, g_9_0, g_9_1, g_9_2, g_9_3, g_9_4, g_9_5, g_9_6, g_9_7, g_9_8, g_9_9, r_10, r_11, r_12, r_13, r_14, r_15, r_16, o_17, g_17_0, g_17_1, g_17_2, g_17_3, g_17_4, r_18, r_19, r_20, r_22, r_23, r_24, r_25, r_26, r_27, r_28, o_29, g_29_0, g_29_1, g_29_2, g_29_3, g_29_4, g_29_5, g_29_6, g_29_7, g_29_8, g_29_9, r_30, r_31, r_32, r_33, r_34, r_35, r_36, o_37, g_37_0, g_37_1, g_37_2, g_37_3, g_37_4, g_37_5, g_37_6, g_37_7, g_37_8, g_37_9, r_38, r_39, r_40, r_41, r_42, r_43, r_44, o_45, g_45_0, g_45_1, g_45_2, g_45_3, g_45_4, g_45_5, g_45_6, g_45_7, g_45_8, g_45_9, r_46, r_47, r_48, r_49, r_50, r_51, r_52, o_53, g_53_0, g_53_1, g_53_2, g_53_3, g_53_4, g_53_5, g_53_6, g_53_7, g_53_8, g_53_9, r_54, r_55, r_56, r_57, r_58, r_59, r_60, o_61, g_61_0, g_61_1, g_61_2, g_61_3, g_61_4, g_61_5, g_61_6, g_61_7, g_61_8, g_61_9, g_61_10, g_61_11, g_61_12, g_61_13, g_61_14, g_61_15, g_61_16, g_61_17, g_61_18, g_61_19, g_61_20, g_61_21, g_61_22, g_61_23, r_62, r_63, r_64, r_65, r_66, r_67, r_68, r_69, r_70, r_71, r_72, r_73, r_74, r_75, r_76, r_77, Option.bind_some, hR.1.1, leN, if_pos (Nat.le_refl n)]
    · intro fuel j m1 l hlo hj hR hlen
      obtain ⟨m2, e2, R2⟩ := inK i j (by omega) hj m1 l hR hlen
      refine ⟨m2, ?_, R2⟩
      simp (disch := omega) only [l_X0_arrangeTriples_19, o_0, g_0_0, g_0_1, g_0_2, g_0_3, g_0_4, g_0_5, g_0_6, g_0_7, g_0_8, g_0_9, g_0_10, g_0_11, o_1, g_1_0, g_1_1, g_1_2, g_1_3, g_1_4, g_1_5, g_1_6, g_1_7, g_1_8, g_1_9, r_2, r_3, r_4, r_5, r_6, r_7, r_8, o_9, g_9_0, g_9_1, g_9_2, g_9_3, g_9_4, g_9_5, g_9_6, g_9_7, g_9_8, g_9_9, r_10, r_11, r_12, r_13, r_14, r_15, r_16, o_17, g_17_0, g_17_1, g_17_2, g_17_3, g_17_4, r_18, r_19, r_20, r_22, r_23, r_24, r_25, r_26, r_27, r_28, o_29, g_29_0, g_29_1, g_29_2, g_29_3, g_29_4, g_29_5, g_29_6, g_29_7, g_29_8, g_29_9, r_30, r_31, r_32, r_33, r_34, r_35, r_36, o_37, g_37_0, g_37_1, g_37_2, g_37_3, g_37_4, g_37_5, g_37_6, g_37_7, g_37_8, g_37_9, r_38, r_39, r_40, r_41, r_42, r_43, r_44, o_45, g_45_0, g_45_1, g_45_2, g_45_3, g_45_4, g_45_5, g_45_6, g_45_7, g_45_8, g_45_9, r_46, r_47, r_48, r_49, r_50, r_51, r_52, o_53, g_53_0, g_53_1, g_53_2, g_53_3, g_53_4, g_53_5, g_53_6, g_53_7, g_53_8, g_53_9, r_54, r_55, r_56, r_57, r_58, r_59, r_60, o_61, g_61_0, g_61_1, g_61_2, g_61_3, g_61_4, g_61_5, g_61_6, g_61_7, g_61_8, g_61_9, g_61_10, g_61_11, g_61_12, g_61_13, g_61_14, g_61_15, g_61_16, g_61_17, g_61_18, g_61_19, g_61_20, g_61_21, g_61_22, g_61_23, r_62, r_63, r_64, r_65, r_66, r_67, r_68, r_69, r_70, r_71, r_72, r_73, r_74, r_75, r_76, r_77, Option.bind_some, hR.1.1, leN, if_neg (show ¬ n ≤ j by omega), add_1, e2]
  have go : ∃ m1, l_X0_arrangeTriples_7 1 FU (nI 0) (HH (m.sI 1 1 0)) = some (HH m1) ∧ RT n ([] ++ tI n) m1 ∧ Fr cA m m1 := by
    refine loopA (α := Nat × Nat × Nat) (fun fuel x h => l_X0_arrangeTriples_7 1 fuel x h) n 56 0 (fun i => tJ n i) (fun l m1 => RT n l m1 ∧ Fr cA m m1) ?_ ?_ n 0 (m.sI 1 1 0) [] FU (Nat.le_refl _) (by omega) (FUx (by omega)) R0 (by show ([] ++ tI n).length ≤ 56; simpa using hB)
    · intro fuel m1 l hR
      simp (disch := omega) only [l_X0_arrangeTriples_7, o_0, g_0_0, g_0_1, g_0_2, g_0_3, g_0_4, g_0_5, g_0_6, g_0_7, g_0_8, g_0_9, g_0_10, g_0_11, o_1, g_1_0, g_1_1, g_1_2, g_1_3, g_1_4, g_1_5, g_1_6, g_1_7, g_1_8, g_1_9, r_2, r_3, r_4, r_5, r_6, r_7, r_8, o_9, g_9_0, g_9_1, g_9_2, g_9_3, g_9_4, g_9_5, g_9_6, g_9_7, g_9_8, g_9_9, r_10, r_11, r_12, r_13, r_14, r_15, r_16, o_17, g_17_0, g_17_1, g_17_2, g_17_3, g_17_4, r_18, r_19, r_20, r_22, r_23, r_24, r_25, r_26, r_27, r_28, o_29, g_29_0, g_29_1, g_29_2, g_29_3, g_29_4, g_29_5, g_29_6, g_29_7, g_29_8, g_29_9, r_30, r_31, r_32, r_33, r_34, r_35, r_36, o_37, g_37_0, g_37_1, g_37_2, g_37_3, g_37_4, g_37_5, g_37_6, g_37_7, g_37_8, g_37_9, r_38, r_39, r_40, r_41, r_42, r_43, r_44, o_45, g_45_0, g_45_1, g_45_2, g_45_3, g_45_4, g_45_5, g_45_6, g_45_7, g_45_8, g_45_9, r_46, r_47, r_48, r_49, r_50, r_51, r_52, o_53, g_53_0, g_53_1, g_53_2, g_53_3, g_53_4, g_53_5, g_53_6, g_53_7, g_53_8, g_53_9, r_54, r_55, r_56, r_57, r_58, r_59, r_60, o_61, g_61_0, g_61_1, g_61_2, g_61_3, g_61_4, g_61_5, g_61_6, g_61_7, g_61_8, g_61_9, g_61_10, g_61_11, g_61_12, g_61_13, g_61_14, g_61_15, g_61_16, g_61_17, g_61_18, g_61_19, g_61_20, g_61_21, g_61_22, g_61_23, r_62, r_63, r_64, r_65, r_66, r_67, r_68, r_69, r_70, r_71, r_72, r_73, r_74, r_75, r_76, r_77, Option.bind_some, hR.1.1, leN, if_pos (Nat.le_refl n)]
    · intro fuel i m1 l hlo hi hR hlen
      obtain ⟨m2, e2, R2⟩ := inJ i hi m1 l hR hlen
      refine ⟨m2, ?_, R2⟩
      simp (disch := omega) only [l_X0_arrangeTriples_7, o_0, g_0_0, g_0_1, g_0_2, g_0_3, g_0_4, g_0_5, g_0_6, g_0_7, g_0_8, g_0_9, g_0_10, g_0_11, o_1, g_1_0, g_1_1, g_1_2, g_1_3, g_1_4, g_1_5, g_1_6, g_1_7, g_1_8, g_1_9, r_2, r_3, r_4, r_5, r_6, r_7, r_8, o_9, g_9_0, g_9_1, g_9_2, g_9_3, g_9_4, g_9_5, g_9_6, g_9_7, g_9_8, g_9_9, r_10, r_11, r_12, r_13, r_14, r_15, r_16, o_17, g_17_0, g_17_1, g_17_2, g_17_3, g_17_4, r_18, r_19, r_20, r_22, r_23, r_24, r_25, r_26, r_27, r_28, o_29, g_29_0, g_29_1, g_29_2, g_29_3, g_29_4, g_29_5, g_29_6, g_29_7, g_29_8, g_29_9, r_30, r_31, r_32, r_33, r_34, r_35, r_36, o_37, g_37_0, g_37_1, g_37_2, g_37_3, g_37_4, g_37_5, g_37_6, g_37_7, g_37_8, g_37_9, r_38, r_39, r_40, r_41, r_42, r_43, r_44, o_45, g_45_0, g_45_1, g_45_2, g_45_3, g_45_4, g_45_5, g_45_6, g_45_7, g_45_8, g_45_9, r_46, r_47, r_48, r_49, r_50, r_51, r_52, o_53, g_53_0, g_53_1, g_53_2, g_53_3, g_53_4, g_53_5, g_53_6, g_53_7, g_53_8, g_53_9, r_54, r_55, r_56, r_57, r_58, r_59, r_60, o_61, g_61_0, g_61_1, g_61_2, g_61_3, g_61_4, g_61_5, g_61_6, g_61_7, g_61_8, g_61_9, g_61_10, g_61_11, g_61_12, g_61_13, g_61_14, g_61_15, g_61_16, g_61_17, g_61_18, g_61_19, g_61_20, g_61_21, g_61_22, g_61_23, r_62, r_63, r_64, r_65, r_66, r_67, r_68, r_69, r_70, r_71, r_72, r_73, r_74, r_75, r_76, r_77, Option.bind_some, hR.1.1, leN, if_neg (show ¬ n ≤ i by omega), add_1, e2]
  obtain ⟨m1, e1, R1, f1⟩ := go
  have e1 : l_X0_arrangeTriples_7 1 FU 0 (HH (m.sI 1 1 0)) = some (HH m1) := e1
  rw [List.nil_append, tI_e hn] at R1
  refine ⟨m1, ?_, R1, f1⟩
  simp only [f_X0_arrangeTriples, o_0, g_0_0, g_0_1, g_0_2, g_0_3, g_0_4, p_0_4, g_0_5, g_0_6, g_0_7, g_0_8, g_0_9, g_0_10, g_0_11, o_1, g_1_0, p_1_0, g_1_1, p_1_1, g_1_2, p_1_2, g_1_3, g_1_4, g_1_5, g_1_6, g_1_7, g_1_8, g_1_9, r_2, w_2, r_3, w_3, r_4, w_4, r_5, w_5, r_6, w_6, r_7, w_7, r_8, w_8, o_9, g_9_0, p_9_0, g_9_1, p_9_1, g_9_2, p_9_2, g_9_3, g_9_4, g_9_5, g_9_6, g_9_7, g_9_8, g_9_9, r_10, w_10, r_11, w_11, r_12, w_12, r_13, w_13, r_14, w_14, r_15, w_15, r_16, w_16, o_17, g_17_0, g_17_1, p_17_1, g_17_2, g_17_3, g_17_4, p_17_4, r_18, w_18, r_19, w_19, r_20, w_20, r_22, w_22, r_23, w_23, r_24, w_24, r_25, w_25, r_26, w_26, r_27, w_27, r_28, w_28, o_29, g_29_0, p_29_0, g_29_1, p_29_1, g_29_2, p_29_2, g_29_3, g_29_4, g_29_5, g_29_6, g_29_7, g_29_8, g_29_9, r_30, w_30, r_31, w_31, r_32, w_32, r_33, w_33, r_34, w_34, r_35, w_35, r_36, w_36, o_37, g_37_0, p_37_0, g_37_1, p_37_1, g_37_2, p_37_2, g_37_3, g_37_4, g_37_5, g_37_6, g_37_7, g_37_8, g_37_9, r_38, w_38, r_39, w_39, r_40, w_40, r_41, w_41, r_42, w_42, r_43, w_43, r_44, w_44, o_45, g_45_0, p_45_0, g_45_1, p_45_1, g_45_2, p_45_2, g_45_3, g_45_4, g_45_5, g_45_6, g_45_7, g_45_8, g_45_9, r_46, w_46, r_47, w_47, r_48, w_48, r_49, w_49, r_50, w_50, r_51, w_51, r_52, w_52, o_53, g_53_0, p_53_0, g_53_1, p_53_1, g_53_2, p_53_2, g_53_3, g_53_4, g_53_5, g_53_6, g_53_7, g_53_8, g_53_9, r_54, w_54, r_55, w_55, r_56, w_56, r_57, w_57, r_58, w_58, r_59, w_59, r_60, w_60, o_61, g_61_0, g_61_1, g_61_2, g_61_3, p_61_3, g_61_4, g_61_5, p_61_5, g_61_6, p_61_6, g_61_7, g_61_8, g_61_9, p_61_9, g_61_10, g_61_11, p_61_11, g_61_12, p_61_12, g_61_13, g_61_14, g_61_15, g_61_16, g_61_17, g_61_18, g_61_19, g_61_20, p_61_20, g_61_21, p_61_21, g_61_22, g_61_23, p_61_23, r_62, w_62, r_63, w_63, r_64, w_64, r_65, w_65, r_66, w_66, r_67, w_67, r_68, w_68, r_69, w_69, r_70, w_70, r_71, w_71, r_72, w_72, r_73, w_73, r_74, w_74, r_75, w_75, r_76, w_76, r_77, w_77, Option.bind_some, e1]
