/-! how the class numbers relations -/
theorem nu_lx0 {n : Nat} (hn : n38 n) : ∀ x, x < 512 → ¬ (x / 64 < x / 8 % 8 ∧ x / 8 % 8 < x % 8 ∧ x % 8 < n) ∨ (nu n (x / 64) (x / 8 % 8) (x % 8) = lx (trips n) (x / 64, x / 8 % 8, x % 8) ∧ (trips n).contains (x / 64, x / 8 % 8, x % 8) = true) := n38_cases (P := fun n => ∀ x, x < 512 → ¬ (x / 64 < x / 8 % 8 ∧ x / 8 % 8 < x % 8 ∧ x % 8 < n) ∨ (nu n (x / 64) (x / 8 % 8) (x % 8) = lx (trips n) (x / 64, x / 8 % 8, x % 8) ∧ (trips n).contains (x / 64, x / 8 % 8, x % 8) = true)) (by decide +kernel) hn
theorem nu_lx {n : Nat} (hn : n38 n) {i j k : Nat} (h1 : i < j) (h2 : j < k) (hk : k < n) : nu n i j k = lx (trips n) (i, j, k) ∧ (i, j, k) ∈ trips n := by
  have h8 := hn.2
  have e := nu_lx0 hn (64 * i + 8 * j + k) (by omega)
  rw [show (64 * i + 8 * j + k) / 64 = i by omega, show (64 * i + 8 * j + k) / 8 % 8 = j by omega, show (64 * i + 8 * j + k) % 8 = k by omega] at e
  have e := e.resolve_left (fun q => q ⟨h1, h2, hk⟩)
  exact ⟨e.1, List.contains_iff_mem.mp e.2⟩
theorem num_srt {n : Nat} (hn : n38 n) {i j k : Nat} (hi : i < n) (hj : j < n) (hk : k < n) (h1 : i ≠ j) (h2 : i ≠ k) (h3 : j ≠ k) : num n i j k = lx (trips n) (srt i j k) ∧ srt i j k ∈ trips n := by
  unfold num srt
  (repeat' split) <;> first | exact nu_lx hn (by omega) (by omega) hk | exact nu_lx hn (by omega) (by omega) hj | exact nu_lx hn (by omega) (by omega) hi
/-- the class's tables of triples -/
def LT (n : Nat) (m : Mem) : Prop := m.I 1 0 = nI n ∧ m.I 1 1 = nI (nT n) ∧
  (∀ t w, t < nT n → w < 3 → m.I 2 (t * 3 + w) = nI (cor n t w)) ∧
  (∀ i j k, i < n → j < n → k < n → m.I 4 ((i * 8 + j) * 8 + k) = par i j k ∧ (i ≠ j → i ≠ k → j ≠ k → m.I 3 ((i * 8 + j) * 8 + k) = nI (num n i j k)))
theorem LT_of {n : Nat} (hn : n38 n) {m : Mem} (h : RT n (trips n) m) : LT n m := by
  have h8 := hn.2
  obtain ⟨a0, a1, az, a2, a3⟩ := h
  refine ⟨a0, a1, fun t w ht hw => a2 t w ht hw, fun i j k hi hj hk => ?_⟩
  by_cases c : i = j ∨ i = k ∨ j = k
  · refine ⟨?_, fun h1 h2 h3 => absurd c (by omega)⟩
    rw [az i j k (by omega) (by omega) (by omega) c]
    unfold par
    rw [if_pos c]
  · obtain ⟨e1, e2⟩ := num_srt hn hi hj hk (by omega) (by omega) (by omega)
    have := a3 i j k (by omega) (by omega) (by omega) (by omega) (by omega) (by omega) e2
    exact ⟨this.2, fun _ _ _ => by rw [this.1, e1]⟩
theorem LT_fr {n : Nat} {m m1 : Mem} (h : LT n m) (e : ∀ k, k = 0 ∨ k = 1 → m1.I 1 k = m.I 1 k) (e2 : m1.I 2 = m.I 2) (e3 : m1.I 3 = m.I 3) (e4 : m1.I 4 = m.I 4) : LT n m1 := by
  unfold LT
  rw [e 0 (Or.inl rfl), e 1 (Or.inr rfl), e2, e3, e4]
  exact h
/-- the numbers and parities of a relation's six triples -/
def fcx (n : Nat) (x : List Nat) (w : Nat) : Nat := num n (x.getD 0 0) (x.getD (fx w).1 0) (x.getD (fx w).2 0)
def fbx (x : List Nat) (w : Nat) : Int32 := par (x.getD 0 0) (x.getD (fx w).1 0) (x.getD (fx w).2 0)
def RK (n r : Nat) (x : List Nat) (m : Mem) : Prop := (∀ w, w < 5 → m.I 5 (r * 5 + w) = nI (x.getD w 0)) ∧ (∀ w, w < 6 → m.I 6 (r * 6 + w) = nI (fcx n x w)) ∧
    (∀ p, p < 3 → m.I 7 (r * 3 + p) = (if p = 1 then -1 else 1) * fbx x (2 * p) * fbx x (2 * p + 1)) ∧
    ∀ t, t < 56 → ((m.J 8 r &&& ((1 : Int64) <<< ((nI t).toInt64 &&& 63))) ≠ 0 ↔ ∃ w, w < 6 ∧ fcx n x w = t)
def RR (n : Nat) (l : List (List Nat)) (m : Mem) : Prop := LT n m ∧ m.I 1 2 = nI l.length ∧ ∀ r, r < l.length → RK n r (l.getD r []) m
theorem bit_n : ∀ a, a < 56 → ∀ b, b < 56 → ((bitT a &&& bitT b) ≠ 0 ↔ a = b) := by decide +kernel
theorem bits_or {x : Int64} {a b t : Nat} (ha : a < 56) (hb : b < 56) (ht : t < 56) : ((x ||| (bitT a ||| bitT b)) &&& bitT t) ≠ 0 ↔ (x &&& bitT t) ≠ 0 ∨ a = t ∨ b = t := by
  rw [orJ_a, orJ_a, Ne, orJ_z, orJ_z]
  have e1 := bit_n a ha t ht
  have e2 := bit_n b hb t ht
  constructor
  · intro h
    by_cases c : (x &&& bitT t) = 0
    · by_cases d : (bitT a &&& bitT t) = 0
      · by_cases f : (bitT b &&& bitT t) = 0
        · exact absurd ⟨c, d, f⟩ h
        · exact Or.inr (Or.inr (e2.mp f))
      · exact Or.inr (Or.inl (e1.mp d))
    · exact Or.inl c
  · rintro (h | h | h) ⟨h1, h2, h3⟩
    · exact h h1
    · exact e1.mpr h h2
    · exact e2.mpr h h3
theorem c_prod {m : Mem} {r p a b A B : Nat} {u v c : Int32} (hr : r < 280) (hp : p < 3) (hR : m.I 1 2 = nI r) (ha : a < 512) (hb : b < 512) (hA : m.I 3 a = nI A) (hB : m.I 3 b = nI B) (hu : m.I 4 a = u) (hv : m.I 4 b = v) : ∃ m1, f_X0_setProduct 1 (nI p) (nI a) (nI b) c (HH m) = some (HH m1) ∧
    m1.I 6 = upd (upd (m.I 6) (r * 6 + 2 * p) (nI A)) (r * 6 + 2 * p + 1) (nI B) ∧ m1.I 7 = upd (m.I 7) (r * 3 + p) (c * u * v) ∧ m1.J 8 = vp_updL (m.J 8) r (m.J 8 r ||| (bitT A ||| bitT B)) ∧ (∀ x, x ≠ 6 → x ≠ 7 → m1.I x = m.I x) ∧ Fr cA m m1 := by
  refine ⟨(((m.sI 6 (r * 6 + 2 * p) (nI A)).sI 6 (r * 6 + 2 * p + 1) (nI B)).sI 7 (r * 3 + p) (c * u * v)).sJ 8 r (m.J 8 r ||| (bitT A ||| bitT B)), ?_, rfl, rfl, rfl, fun x h6 h7 => ?_, Fr_sJ (Fr_sI (Fr_sI (Fr_sI (Fr_rf _ m) ⟨by omega, by omega⟩) ⟨by omega, by omega⟩) ⟨by omega, by omega⟩) ⟨by omega, by omega⟩⟩
  · have h1 : (m.sI 6 (r * 6 + 2 * p) (nI A)).I 3 b = nI B := hB
    have h2 : ((m.sI 6 (r * 6 + 2 * p) (nI A)).sI 6 (r * 6 + 2 * p + 1) (nI B)).I 1 2 = nI r := hR
    have h3 : ((m.sI 6 (r * 6 + 2 * p) (nI A)).sI 6 (r * 6 + 2 * p + 1) (nI B)).I 4 a = u := hu
    have h4 : ((m.sI 6 (r * 6 + 2 * p) (nI A)).sI 6 (r * 6 + 2 * p + 1) (nI B)).I 4 b = v := hv
    have h5 : (((m.sI 6 (r * 6 + 2 * p) (nI A)).sI 6 (r * 6 + 2 * p + 1) (nI B)).sI 7 (r * 3 + p) (c * u * v)).I 1 2 = nI r := hR
    have h6 : (((m.sI 6 (r * 6 + 2 * p) (nI A)).sI 6 (r * 6 + 2 * p + 1) (nI B)).sI 7 (r * 3 + p) (c * u * v)).I 3 a = nI A := hA
    have h7 : (((m.sI 6 (r * 6 + 2 * p) (nI A)).sI 6 (r * 6 + 2 * p + 1) (nI B)).sI 7 (r * 3 + p) (c * u * v)).I 3 b = nI B := hB
    simp (disch := omega) only [f_X0_setProduct, show (6 : Int32) = nI 6 from rfl, show (2 : Int32) = nI 2 from rfl, show (3 : Int32) = nI 3 from rfl, pk_mul, nI_add, add_1, o_0, g_0_0, g_0_1, g_0_2, g_0_3, g_0_4, p_0_4, g_0_5, g_0_6, g_0_7, g_0_8, g_0_9, g_0_10, g_0_11, o_1, g_1_0, p_1_0, g_1_1, p_1_1, g_1_2, p_1_2, g_1_3, g_1_4, g_1_5, g_1_6, g_1_7, g_1_8, g_1_9, r_2, w_2, r_3, w_3, r_4, w_4, r_5, w_5, r_6, w_6, r_7, w_7, r_8, w_8, o_9, g_9_0, p_9_0, g_9_1, p_9_1, g_9_2, p_9_2, g_9_3, g_9_4, g_9_5, g_9_6, g_9_7, g_9_8, g_9_9, r_10, w_10, r_11, w_11, r_12, w_12, r_13, w_13, r_14, w_14, r_15, w_15, r_16, w_16, o_17, g_17_0, g_17_1, p_17_1, g_17_2, g_17_3, g_17_4, p_17_4, r_18, w_18, r_19, w_19, r_20, w_20, r_22, w_22, r_23, w_23, r_24, w_24, r_25, w_25, r_26, w_26, r_27, w_27, r_28, w_28, o_29, g_29_0, p_29_0, g_29_1, p_29_1, g_29_2, p_29_2, g_29_3, g_29_4, g_29_5, g_29_6, g_29_7, g_29_8, g_29_9, r_30, w_30, r_31, w_31, r_32, w_32, r_33, w_33, r_34, w_34, r_35, w_35, r_36, w_36, o_37, g_37_0, p_37_0, g_37_1, p_37_1, g_37_2, p_37_2, g_37_3, g_37_4, g_37_5, g_37_6, g_37_7, g_37_8, g_37_9, r_38, w_38, r_39, w_39, r_40, w_40, r_41, w_41, r_42, w_42, r_43, w_43, r_44, w_44, o_45, g_45_0, p_45_0, g_45_1, p_45_1, g_45_2, p_45_2, g_45_3, g_45_4, g_45_5, g_45_6, g_45_7, g_45_8, g_45_9, r_46, w_46, r_47, w_47, r_48, w_48, r_49, w_49, r_50, w_50, r_51, w_51, r_52, w_52, o_53, g_53_0, p_53_0, g_53_1, p_53_1, g_53_2, p_53_2, g_53_3, g_53_4, g_53_5, g_53_6, g_53_7, g_53_8, g_53_9, r_54, w_54, r_55, w_55, r_56, w_56, r_57, w_57, r_58, w_58, r_59, w_59, r_60, w_60, o_61, g_61_0, g_61_1, g_61_2, g_61_3, p_61_3, g_61_4, g_61_5, p_61_5, g_61_6, p_61_6, g_61_7, g_61_8, g_61_9, p_61_9, g_61_10, g_61_11, p_61_11, g_61_12, p_61_12, g_61_13, g_61_14, g_61_15, g_61_16, g_61_17, g_61_18, g_61_19, g_61_20, p_61_20, g_61_21, p_61_21, g_61_22, g_61_23, p_61_23, r_62, w_62, r_63, w_63, r_64, w_64, r_65, w_65, r_66, w_66, r_67, w_67, r_68, w_68, r_69, w_69, r_70, w_70, r_71, w_71, r_72, w_72, r_73, w_73, r_74, w_74, r_75, w_75, r_76, w_76, r_77, w_77, Option.bind_some, hR, hA, h1, h2, h3, h4, h5, h6, h7]
    rfl
  · show ((((m.sI 6 (r * 6 + 2 * p) (nI A)).sI 6 (r * 6 + 2 * p + 1) (nI B)).sI 7 (r * 3 + p) (c * u * v)).sJ 8 r _).I x = _
    show (((m.sI 6 (r * 6 + 2 * p) (nI A)).sI 6 (r * 6 + 2 * p + 1) (nI B)).sI 7 (r * 3 + p) (c * u * v)).I x = _
    rw [sI_I, if_neg h7, sI_I, if_neg h6, sI_I, if_neg h6]
theorem spot_e (a b c : Nat) : f_X0_spot (nI a) (nI b) (nI c) = some (nI ((a * 8 + b) * 8 + c)) := by
  simp only [f_X0_spot, show (8 : Int32) = nI 8 from rfl, pk_mul, nI_add]
theorem getD_l {l : List (List Nat)} {x : List Nat} {r : Nat} (h : r < l.length) : (l ++ [x]).getD r [] = l.getD r [] := by
  simp only [List.getD_eq_getElem?_getD, List.getElem?_append_left h]
theorem getD_r (l : List (List Nat)) (x : List Nat) : (l ++ [x]).getD l.length [] = x := by
  simp
theorem c_addR {n : Nat} (hn : n38 n) {l : List (List Nat)} {m : Mem} (hR : RR n l m) (hl : l.length < 280) {a b c d e : Nat} (ha : a < n) (hb : b < n) (hc : c < n) (hd : d < n) (he : e < n) (nab : a ≠ b) (nac : a ≠ c) (nad : a ≠ d) (nae : a ≠ e) (nbc : b < c) (ncd : c < d) (nde : d < e) :
    ∃ m1, f_X0_addRelation 1 (nI a) (nI b) (nI c) (nI d) (nI e) (HH m) = some (HH m1) ∧ RR n (l ++ [[a, b, c, d, e]]) m1 ∧ Fr cA m m1 ∧ m1.I 4 = m.I 4 := by
  have h8 := hn.2
  have hT := nT_le hn
  obtain ⟨hL, hr, hk⟩ := hR
  obtain ⟨r, er⟩ : ∃ r, r = l.length := ⟨_, rfl⟩
  rw [← er] at hr hl
  obtain ⟨m0, em0⟩ : ∃ m0, m0 = (((((m.sI 5 (r * 5) (nI a)).sI 5 (r * 5 + 1) (nI b)).sI 5 (r * 5 + 2) (nI c)).sI 5 (r * 5 + 3) (nI d)).sI 5 (r * 5 + 4) (nI e)).sJ 8 r 0 := ⟨_, rfl⟩
  have b5 : m0.I 5 = upd (upd (upd (upd (upd (m.I 5) (r * 5) (nI a)) (r * 5 + 1) (nI b)) (r * 5 + 2) (nI c)) (r * 5 + 3) (nI d)) (r * 5 + 4) (nI e) := by rw [em0]; rfl
  have bJ : m0.J 8 = vp_updL (m.J 8) r 0 := by rw [em0]; rfl
  have bo : ∀ x, x ≠ 5 → m0.I x = m.I x := fun x hx => by
    rw [em0]
    show ((((((m.sI 5 (r * 5) (nI a)).sI 5 (r * 5 + 1) (nI b)).sI 5 (r * 5 + 2) (nI c)).sI 5 (r * 5 + 3) (nI d)).sI 5 (r * 5 + 4) (nI e))).I x = _
    rw [sI_I, if_neg hx, sI_I, if_neg hx, sI_I, if_neg hx, sI_I, if_neg hx, sI_I, if_neg hx]
  have f0 : Fr cA m m0 := by rw [em0]; exact Fr_sJ (Fr_sI (Fr_sI (Fr_sI (Fr_sI (Fr_sI (Fr_rf _ m) ⟨by omega, by omega⟩) ⟨by omega, by omega⟩) ⟨by omega, by omega⟩) ⟨by omega, by omega⟩) ⟨by omega, by omega⟩) ⟨by omega, by omega⟩
  have L0 : LT n m0 := LT_fr hL (fun k _ => by rw [bo 1 (by omega)]) (bo 2 (by omega)) (bo 3 (by omega)) (bo 4 (by omega))
  have r0 : m0.I 1 2 = nI r := by rw [bo 1 (by omega)]; exact hr
  have nm : ∀ {m1 : Mem}, LT n m1 → ∀ i j k, i < n → j < n → k < n → i ≠ j → i ≠ k → j ≠ k → m1.I 3 ((i * 8 + j) * 8 + k) = nI (num n i j k) := fun h i j k hi hj hk n1 n2 n3 => (h.2.2.2 i j k hi hj hk).2 n1 n2 n3
  have pm : ∀ {m1 : Mem}, LT n m1 → ∀ i j k, i < n → j < n → k < n → m1.I 4 ((i * 8 + j) * 8 + k) = par i j k := fun h i j k hi hj hk => (h.2.2.2 i j k hi hj hk).1
  have LTn : ∀ {m1 m2 : Mem}, LT n m1 → (∀ x, x ≠ 6 → x ≠ 7 → m2.I x = m1.I x) → LT n m2 := fun h o => LT_fr h (fun k _ => by rw [o 1 (by omega) (by omega)]) (o 2 (by omega) (by omega)) (o 3 (by omega) (by omega)) (o 4 (by omega) (by omega))
  obtain ⟨m1, e1, p1, q1, j1, o1, f1⟩ := c_prod (p := 0) (c := 1) hl (by omega) r0 (a := (a * 8 + b) * 8 + c) (b := (a * 8 + d) * 8 + e) (by omega) (by omega) (nm L0 a b c ha hb hc nab nac (by omega)) (nm L0 a d e ha hd he nad nae (by omega)) (pm L0 a b c ha hb hc) (pm L0 a d e ha hd he)
  have L1 := LTn L0 o1
  have r1 : m1.I 1 2 = nI r := by rw [o1 1 (by omega) (by omega)]; exact r0
  obtain ⟨m2, e2, p2, q2, j2, o2, f2⟩ := c_prod (p := 1) (c := -1) hl (by omega) r1 (a := (a * 8 + b) * 8 + d) (b := (a * 8 + c) * 8 + e) (by omega) (by omega) (nm L1 a b d ha hb hd nab nad (by omega)) (nm L1 a c e ha hc he nac nae (by omega)) (pm L1 a b d ha hb hd) (pm L1 a c e ha hc he)
  have L2 := LTn L1 o2
  have r2 : m2.I 1 2 = nI r := by rw [o2 1 (by omega) (by omega)]; exact r1
  obtain ⟨m3, e3, p3, q3, j3, o3, f3⟩ := c_prod (p := 2) (c := 1) hl (by omega) r2 (a := (a * 8 + b) * 8 + e) (b := (a * 8 + c) * 8 + d) (by omega) (by omega) (nm L2 a b e ha hb he nab nae (by omega)) (nm L2 a c d ha hc hd nac nad (by omega)) (pm L2 a b e ha hb he) (pm L2 a c d ha hc hd)
  have L3 := LTn L2 o3
  have r3 : m3.I 1 2 = nI r := by rw [o3 1 (by omega) (by omega)]; exact r2
  have z5 : (m3.sI 1 2 (nI (r + 1))).I 5 = m0.I 5 := by rw [sI_I, if_neg (by omega), o3 5 (by omega) (by omega), o2 5 (by omega) (by omega), o1 5 (by omega) (by omega)]
  have z6 : (m3.sI 1 2 (nI (r + 1))).I 6 = upd (upd (upd (upd (upd (upd (m.I 6) (r * 6 + 2 * 0) (nI (num n a b c))) (r * 6 + 2 * 0 + 1) (nI (num n a d e))) (r * 6 + 2 * 1) (nI (num n a b d))) (r * 6 + 2 * 1 + 1) (nI (num n a c e))) (r * 6 + 2 * 2) (nI (num n a b e))) (r * 6 + 2 * 2 + 1) (nI (num n a c d)) := by
    rw [sI_I, if_neg (by omega), p3, p2, p1, bo 6 (by omega)]
  have z7 : (m3.sI 1 2 (nI (r + 1))).I 7 = upd (upd (upd (m.I 7) (r * 3 + 0) (1 * par a b c * par a d e)) (r * 3 + 1) (-1 * par a b d * par a c e)) (r * 3 + 2) (1 * par a b e * par a c d) := by
    rw [sI_I, if_neg (by omega), q3, q2, q1, bo 7 (by omega)]
  have zJ : (m3.sI 1 2 (nI (r + 1))).J 8 = vp_updL (vp_updL (vp_updL (vp_updL (m.J 8) r 0) r (0 ||| (bitT (num n a b c) ||| bitT (num n a d e)))) r (0 ||| (bitT (num n a b c) ||| bitT (num n a d e)) ||| (bitT (num n a b d) ||| bitT (num n a c e)))) r (0 ||| (bitT (num n a b c) ||| bitT (num n a d e)) ||| (bitT (num n a b d) ||| bitT (num n a c e)) ||| (bitT (num n a b e) ||| bitT (num n a c d))) := by
    show m3.J 8 = _
    rw [j3, j2, j1, bJ]
    have u : ∀ (f : Nat → Int64) (x : Int64), vp_updL f r x r = x := fun f x => by rw [updL_g, if_pos rfl]
    simp only [u]
  have lt56 : ∀ i j k, i < n → j < n → k < n → i ≠ j → i ≠ k → j ≠ k → num n i j k < 56 := fun i j k hi hj hk n1 n2 n3 => by
    have := num_lt hn hi hj hk n1 n2 n3
    omega
  refine ⟨m3.sI 1 2 (nI (r + 1)), ?_, ⟨?_, ?_, fun r' hr' => ?_⟩, Fr_sI (Fr_tr f0 (Fr_tr f1 (Fr_tr f2 f3))) ⟨by omega, by omega⟩, ?_⟩
  · simp (disch := omega) only [f_X0_addRelation, show (5 : Int32) = nI 5 from rfl, pk_mul, add_1, add_2, add_3, show nI (r * 5) + (4 : Int32) = nI (r * 5 + 4) from nI_add _ 4, o_0, g_0_0, g_0_1, g_0_2, g_0_3, g_0_4, p_0_4, g_0_5, g_0_6, g_0_7, g_0_8, g_0_9, g_0_10, g_0_11, o_1, g_1_0, p_1_0, g_1_1, p_1_1, g_1_2, p_1_2, g_1_3, g_1_4, g_1_5, g_1_6, g_1_7, g_1_8, g_1_9, r_2, w_2, r_3, w_3, r_4, w_4, r_5, w_5, r_6, w_6, r_7, w_7, r_8, w_8, o_9, g_9_0, p_9_0, g_9_1, p_9_1, g_9_2, p_9_2, g_9_3, g_9_4, g_9_5, g_9_6, g_9_7, g_9_8, g_9_9, r_10, w_10, r_11, w_11, r_12, w_12, r_13, w_13, r_14, w_14, r_15, w_15, r_16, w_16, o_17, g_17_0, g_17_1, p_17_1, g_17_2, g_17_3, g_17_4, p_17_4, r_18, w_18, r_19, w_19, r_20, w_20, r_22, w_22, r_23, w_23, r_24, w_24, r_25, w_25, r_26, w_26, r_27, w_27, r_28, w_28, o_29, g_29_0, p_29_0, g_29_1, p_29_1, g_29_2, p_29_2, g_29_3, g_29_4, g_29_5, g_29_6, g_29_7, g_29_8, g_29_9, r_30, w_30, r_31, w_31, r_32, w_32, r_33, w_33, r_34, w_34, r_35, w_35, r_36, w_36, o_37, g_37_0, p_37_0, g_37_1, p_37_1, g_37_2, p_37_2, g_37_3, g_37_4, g_37_5, g_37_6, g_37_7, g_37_8, g_37_9, r_38, w_38, r_39, w_39, r_40, w_40, r_41, w_41, r_42, w_42, r_43, w_43, r_44, w_44, o_45, g_45_0, p_45_0, g_45_1, p_45_1, g_45_2, p_45_2, g_45_3, g_45_4, g_45_5, g_45_6, g_45_7, g_45_8, g_45_9, r_46, w_46, r_47, w_47, r_48, w_48, r_49, w_49, r_50, w_50, r_51, w_51, r_52, w_52, o_53, g_53_0, p_53_0, g_53_1, p_53_1, g_53_2, p_53_2, g_53_3, g_53_4, g_53_5, g_53_6, g_53_7, g_53_8, g_53_9, r_54, w_54, r_55, w_55, r_56, w_56, r_57, w_57, r_58, w_58, r_59, w_59, r_60, w_60, o_61, g_61_0, g_61_1, g_61_2, g_61_3, p_61_3, g_61_4, g_61_5, p_61_5, g_61_6, p_61_6, g_61_7, g_61_8, g_61_9, p_61_9, g_61_10, g_61_11, p_61_11, g_61_12, p_61_12, g_61_13, g_61_14, g_61_15, g_61_16, g_61_17, g_61_18, g_61_19, g_61_20, p_61_20, g_61_21, p_61_21, g_61_22, g_61_23, p_61_23, r_62, w_62, r_63, w_63, r_64, w_64, r_65, w_65, r_66, w_66, r_67, w_67, r_68, w_68, r_69, w_69, r_70, w_70, r_71, w_71, r_72, w_72, r_73, w_73, r_74, w_74, r_75, w_75, r_76, w_76, r_77, w_77, Option.bind_some, hr]
    have hm : (((((m.sI 5 (r * 5) (nI a)).sI 5 (r * 5 + 1) (nI b)).sI 5 (r * 5 + 2) (nI c)).sI 5 (r * 5 + 3) (nI d)).sI 5 (r * 5 + 4) (nI e)).I 1 2 = nI r := hr
    simp (disch := omega) only [hm, o_0, g_0_0, g_0_1, g_0_2, g_0_3, g_0_4, p_0_4, g_0_5, g_0_6, g_0_7, g_0_8, g_0_9, g_0_10, g_0_11, o_1, g_1_0, p_1_0, g_1_1, p_1_1, g_1_2, p_1_2, g_1_3, g_1_4, g_1_5, g_1_6, g_1_7, g_1_8, g_1_9, r_2, w_2, r_3, w_3, r_4, w_4, r_5, w_5, r_6, w_6, r_7, w_7, r_8, w_8, o_9, g_9_0, p_9_0, g_9_1, p_9_1, g_9_2, p_9_2, g_9_3, g_9_4, g_9_5, g_9_6, g_9_7, g_9_8, g_9_9, r_10, w_10, r_11, w_11, r_12, w_12, r_13, w_13, r_14, w_14, r_15, w_15, r_16, w_16, o_17, g_17_0, g_17_1, p_17_1, g_17_2, g_17_3, g_17_4, p_17_4, r_18, w_18, r_19, w_19, r_20, w_20, r_22, w_22, r_23, w_23, r_24, w_24, r_25, w_25, r_26, w_26, r_27, w_27, r_28, w_28, o_29, g_29_0, p_29_0, g_29_1, p_29_1, g_29_2, p_29_2, g_29_3, g_29_4, g_29_5, g_29_6, g_29_7, g_29_8, g_29_9, r_30, w_30, r_31, w_31, r_32, w_32, r_33, w_33, r_34, w_34, r_35, w_35, r_36, w_36, o_37, g_37_0, p_37_0, g_37_1, p_37_1, g_37_2, p_37_2, g_37_3, g_37_4, g_37_5, g_37_6, g_37_7, g_37_8, g_37_9, r_38, w_38, r_39, w_39, r_40, w_40, r_41, w_41, r_42, w_42, r_43, w_43, r_44, w_44, o_45, g_45_0, p_45_0, g_45_1, p_45_1, g_45_2, p_45_2, g_45_3, g_45_4, g_45_5, g_45_6, g_45_7, g_45_8, g_45_9, r_46, w_46, r_47, w_47, r_48, w_48, r_49, w_49, r_50, w_50, r_51, w_51, r_52, w_52, o_53, g_53_0, p_53_0, g_53_1, p_53_1, g_53_2, p_53_2, g_53_3, g_53_4, g_53_5, g_53_6, g_53_7, g_53_8, g_53_9, r_54, w_54, r_55, w_55, r_56, w_56, r_57, w_57, r_58, w_58, r_59, w_59, r_60, w_60, o_61, g_61_0, g_61_1, g_61_2, g_61_3, p_61_3, g_61_4, g_61_5, p_61_5, g_61_6, p_61_6, g_61_7, g_61_8, g_61_9, p_61_9, g_61_10, g_61_11, p_61_11, g_61_12, p_61_12, g_61_13, g_61_14, g_61_15, g_61_16, g_61_17, g_61_18, g_61_19, g_61_20, p_61_20, g_61_21, p_61_21, g_61_22, g_61_23, p_61_23, r_62, w_62, r_63, w_63, r_64, w_64, r_65, w_65, r_66, w_66, r_67, w_67, r_68, w_68, r_69, w_69, r_70, w_70, r_71, w_71, r_72, w_72, r_73, w_73, r_74, w_74, r_75, w_75, r_76, w_76, r_77, w_77, Option.bind_some, spot_e]
    rw [← em0, show f_X0_setProduct 1 0 (nI ((a * 8 + b) * 8 + c)) (nI ((a * 8 + d) * 8 + e)) 1 (HH m0) = _ from e1, Option.bind_some, show f_X0_setProduct 1 1 (nI ((a * 8 + b) * 8 + d)) (nI ((a * 8 + c) * 8 + e)) (-1) (HH m1) = _ from e2, Option.bind_some, show f_X0_setProduct 1 2 (nI ((a * 8 + b) * 8 + e)) (nI ((a * 8 + c) * 8 + d)) 1 (HH m2) = _ from e3, Option.bind_some]
    simp only [o_0, g_0_0, g_0_1, g_0_2, g_0_3, g_0_4, p_0_4, g_0_5, g_0_6, g_0_7, g_0_8, g_0_9, g_0_10, g_0_11, o_1, g_1_0, p_1_0, g_1_1, p_1_1, g_1_2, p_1_2, g_1_3, g_1_4, g_1_5, g_1_6, g_1_7, g_1_8, g_1_9, r_2, w_2, r_3, w_3, r_4, w_4, r_5, w_5, r_6, w_6, r_7, w_7, r_8, w_8, o_9, g_9_0, p_9_0, g_9_1, p_9_1, g_9_2, p_9_2, g_9_3, g_9_4, g_9_5, g_9_6, g_9_7, g_9_8, g_9_9, r_10, w_10, r_11, w_11, r_12, w_12, r_13, w_13, r_14, w_14, r_15, w_15, r_16, w_16, o_17, g_17_0, g_17_1, p_17_1, g_17_2, g_17_3, g_17_4, p_17_4, r_18, w_18, r_19, w_19, r_20, w_20, r_22, w_22, r_23, w_23, r_24, w_24, r_25, w_25, r_26, w_26, r_27, w_27, r_28, w_28, o_29, g_29_0, p_29_0, g_29_1, p_29_1, g_29_2, p_29_2, g_29_3, g_29_4, g_29_5, g_29_6, g_29_7, g_29_8, g_29_9, r_30, w_30, r_31, w_31, r_32, w_32, r_33, w_33, r_34, w_34, r_35, w_35, r_36, w_36, o_37, g_37_0, p_37_0, g_37_1, p_37_1, g_37_2, p_37_2, g_37_3, g_37_4, g_37_5, g_37_6, g_37_7, g_37_8, g_37_9, r_38, w_38, r_39, w_39, r_40, w_40, r_41, w_41, r_42, w_42, r_43, w_43, r_44, w_44, o_45, g_45_0, p_45_0, g_45_1, p_45_1, g_45_2, p_45_2, g_45_3, g_45_4, g_45_5, g_45_6, g_45_7, g_45_8, g_45_9, r_46, w_46, r_47, w_47, r_48, w_48, r_49, w_49, r_50, w_50, r_51, w_51, r_52, w_52, o_53, g_53_0, p_53_0, g_53_1, p_53_1, g_53_2, p_53_2, g_53_3, g_53_4, g_53_5, g_53_6, g_53_7, g_53_8, g_53_9, r_54, w_54, r_55, w_55, r_56, w_56, r_57, w_57, r_58, w_58, r_59, w_59, r_60, w_60, o_61, g_61_0, g_61_1, g_61_2, g_61_3, p_61_3, g_61_4, g_61_5, p_61_5, g_61_6, p_61_6, g_61_7, g_61_8, g_61_9, p_61_9, g_61_10, g_61_11, p_61_11, g_61_12, p_61_12, g_61_13, g_61_14, g_61_15, g_61_16, g_61_17, g_61_18, g_61_19, g_61_20, p_61_20, g_61_21, p_61_21, g_61_22, g_61_23, p_61_23, r_62, w_62, r_63, w_63, r_64, w_64, r_65, w_65, r_66, w_66, r_67, w_67, r_68, w_68, r_69, w_69, r_70, w_70, r_71, w_71, r_72, w_72, r_73, w_73, r_74, w_74, r_75, w_75, r_76, w_76, r_77, w_77, Option.bind_some, r3, add_1]
  · exact LT_fr L3 (fun k hk => by rw [sI_at, if_neg (by omega)]) (by rw [sI_I, if_neg (by omega)]) (by rw [sI_I, if_neg (by omega)]) (by rw [sI_I, if_neg (by omega)])
  · rw [sI_at, if_pos rfl, List.length_append, ← er]
    rfl
  · rw [List.length_append] at hr'
    have hr' : r' < l.length + 1 := hr'
    by_cases cr : r' = l.length
    · subst cr
      rw [getD_r]
      unfold RK
      rw [z5, b5, z6, z7, zJ, ← er]
      refine ⟨fun w hw => ?_, fun w hw => ?_, fun p hp => ?_, fun t ht => ?_⟩
      · have : w = 0 ∨ w = 1 ∨ w = 2 ∨ w = 3 ∨ w = 4 := by omega
        rcases this with rfl | rfl | rfl | rfl | rfl
        · rw [upd_g, if_neg (by omega), upd_g, if_neg (by omega), upd_g, if_neg (by omega), upd_g, if_neg (by omega), upd_g, if_pos (by omega)]
          rfl
        · rw [upd_g, if_neg (by omega), upd_g, if_neg (by omega), upd_g, if_neg (by omega), upd_g, if_pos (by omega)]
          rfl
        · rw [upd_g, if_neg (by omega), upd_g, if_neg (by omega), upd_g, if_pos (by omega)]
          rfl
        · rw [upd_g, if_neg (by omega), upd_g, if_pos (by omega)]
          rfl
        · rw [upd_g, if_pos (by omega)]
          rfl
      · have : w = 0 ∨ w = 1 ∨ w = 2 ∨ w = 3 ∨ w = 4 ∨ w = 5 := by omega
        rcases this with rfl | rfl | rfl | rfl | rfl | rfl
        · rw [upd_g, if_neg (by omega), upd_g, if_neg (by omega), upd_g, if_neg (by omega), upd_g, if_neg (by omega), upd_g, if_neg (by omega), upd_g, if_pos (by omega)]
          rfl
        · rw [upd_g, if_neg (by omega), upd_g, if_neg (by omega), upd_g, if_neg (by omega), upd_g, if_neg (by omega), upd_g, if_pos (by omega)]
          rfl
        · rw [upd_g, if_neg (by omega), upd_g, if_neg (by omega), upd_g, if_neg (by omega), upd_g, if_pos (by omega)]
          rfl
        · rw [upd_g, if_neg (by omega), upd_g, if_neg (by omega), upd_g, if_pos (by omega)]
          rfl
        · rw [upd_g, if_neg (by omega), upd_g, if_pos (by omega)]
          rfl
        · rw [upd_g, if_pos (by omega)]
          rfl
      · have : p = 0 ∨ p = 1 ∨ p = 2 := by omega
        rcases this with rfl | rfl | rfl
        · rw [upd_g, if_neg (by omega), upd_g, if_neg (by omega), upd_g, if_pos (by omega)]
          rfl
        · rw [upd_g, if_neg (by omega), upd_g, if_pos (by omega)]
          rfl
        · rw [upd_g, if_pos (by omega)]
          rfl
      · have g0 := lt56 a b c ha hb hc nab nac (by omega)
        have g1 := lt56 a d e ha hd he nad nae (by omega)
        have g2 := lt56 a b d ha hb hd nab nad (by omega)
        have g3 := lt56 a c e ha hc he nac nae (by omega)
        have g4 := lt56 a b e ha hb he nab nae (by omega)
        have g5 := lt56 a c d ha hc hd nac nad (by omega)
        rw [updL_g, if_pos rfl]
        show (_ &&& bitT t) ≠ 0 ↔ _
        rw [bits_or g4 g5 ht, bits_or g2 g3 ht, bits_or g0 g1 ht]
        have z : ¬ ((0 : Int64) &&& bitT t) ≠ 0 := fun h => h (by simp)
        constructor
        · rintro (((h | h | h) | h | h) | h | h)
          · exact absurd h z
          · exact ⟨0, by omega, h⟩
          · exact ⟨1, by omega, h⟩
          · exact ⟨2, by omega, h⟩
          · exact ⟨3, by omega, h⟩
          · exact ⟨4, by omega, h⟩
          · exact ⟨5, by omega, h⟩
        · rintro ⟨w, hw, h⟩
          have : w = 0 ∨ w = 1 ∨ w = 2 ∨ w = 3 ∨ w = 4 ∨ w = 5 := by omega
          rcases this with rfl | rfl | rfl | rfl | rfl | rfl
          · exact Or.inl (Or.inl (Or.inr (Or.inl h)))
          · exact Or.inl (Or.inl (Or.inr (Or.inr h)))
          · exact Or.inl (Or.inr (Or.inl h))
          · exact Or.inl (Or.inr (Or.inr h))
          · exact Or.inr (Or.inl h)
          · exact Or.inr (Or.inr h)
    · have hlt : r' < l.length := by omega
      obtain ⟨k1, k2, k3, k4⟩ := hk r' hlt
      rw [getD_l hlt]
      unfold RK
      rw [z5, b5, z6, z7, zJ]
      refine ⟨fun w hw => ?_, fun w hw => ?_, fun p hp => ?_, fun t ht => ?_⟩
      · rw [upd_g, if_neg (by omega), upd_g, if_neg (by omega), upd_g, if_neg (by omega), upd_g, if_neg (by omega), upd_g, if_neg (by omega)]
        exact k1 w hw
      · rw [upd_g, if_neg (by omega), upd_g, if_neg (by omega), upd_g, if_neg (by omega), upd_g, if_neg (by omega), upd_g, if_neg (by omega), upd_g, if_neg (by omega)]
        exact k2 w hw
      · rw [upd_g, if_neg (by omega), upd_g, if_neg (by omega), upd_g, if_neg (by omega)]
        exact k3 p hp
      · rw [updL_g, if_neg (by omega), updL_g, if_neg (by omega), updL_g, if_neg (by omega), updL_g, if_neg (by omega)]
        exact k4 t ht
  · rw [sI_I, if_neg (by omega), o3 4 (by omega) (by omega), o2 4 (by omega) (by omega), o1 4 (by omega) (by omega), bo 4 (by omega)]
