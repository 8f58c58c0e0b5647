/-! writing the class's state; forgetting -/
section Forget
theorem ifI {α : Type} {a b : Prop} [Decidable a] [Decidable b] {x y : α} (h : a ↔ b) : (if a then x else y) = if b then x else y := by
  by_cases c : a
  · rw [if_pos c, if_pos (h.mp c)]
  · rw [if_neg c, if_neg (fun q => c (h.mpr q))]
theorem many_s (s : Nat → Int32) (kd : Int32) (n : Nat) : many s kd (n + 1) = if s (3 + 4 * n + 1) = kd then many s kd n + 1 else many s kd n := rfl
theorem frg_s (s : Nat → Int32) (n : Nat) : frg s (n + 1) = if (frg s n) (3 + 4 * n + 1) = 2 then clr n (frg s n) else frg s n := rfl
theorem RS_cg {b : Nat} {m : Mem} {s s' : Nat → Int32} {M M' : Nat → Int64} (h : RS b m s M) (hs : ∀ k, k < 243 → s' k = s k) (hM : ∀ t, t < 56 → M' t = M t) : RS b m s' M' := by
  refine ⟨by rw [hs 0 (by omega)]; exact h.1, by rw [hs 1 (by omega)]; exact h.2.1, by rw [hs 2 (by omega)]; exact h.2.2.1, fun t ht => ?_, fun p hp => ?_⟩
  · rw [hs _ (show 3 + 4 * t < 243 by omega), hs _ (show 3 + 4 * t + 1 < 243 by omega), hs _ (show 3 + 4 * t + 2 < 243 by omega), hs _ (show 3 + 4 * t + 3 < 243 by omega), hM t ht]
    exact h.2.2.2.1 t ht
  · rw [hs _ (show 227 + 2 * p < 243 by omega), hs _ (show 227 + 2 * p + 1 < 243 by omega)]
    exact h.2.2.2.2 p hp
/-- the state's cells -/
def cS (b a : Nat) : Prop := b ≤ a ∧ a < b + 8
theorem RS_fr {b : Nat} {m m1 : Mem} {s : Nat → Int32} {M : Nat → Int64} {c : Nat → Prop} (h : RS b m s M) (f : Fr c m m1) (hc : ∀ a, cS b a → ¬ c a) : RS b m1 s M := by
  have e : ∀ q, q < 8 → m1.I (b + q) = m.I (b + q) := fun q hq => (f.1 (b + q) (hc _ ⟨by omega, by omega⟩)).1
  have e5 : m1.J (b + 5) = m.J (b + 5) := (f.1 (b + 5) (hc _ ⟨by omega, by omega⟩)).2
  have e0 := e 0 (by omega)
  rw [Nat.add_zero] at e0
  unfold RS
  rw [e0, e 1 (by omega), e 2 (by omega), e 3 (by omega), e 4 (by omega), e5, e 6 (by omega), e 7 (by omega)]
  exact h
theorem RS_set {m : Mem} {s s' : Nat → Int32} {M : Nat → Int64} (h : RS 9 m s M) {t : Nat} {v kd r st : Int32} {X : Int64}
    (h1 : ∀ k, s' k = if k = 3 + 4 * t then v else if k = 3 + 4 * t + 1 then kd else if k = 3 + 4 * t + 2 then r else if k = 3 + 4 * t + 3 then st else s k) (ht : t < 56) :
    RS 9 (((((m.sI 10 t v).sI 11 t kd).sI 12 t r).sI 13 t st).sJ 14 t X) s' (vp_updL M t X) ∧ Fr (cS 9) m (((((m.sI 10 t v).sI 11 t kd).sI 12 t r).sI 13 t st).sJ 14 t X) := by
  refine ⟨?_, Fr_sJ (Fr_sI (Fr_sI (Fr_sI (Fr_sI (Fr_rf _ m) ⟨by omega, by omega⟩) ⟨by omega, by omega⟩) ⟨by omega, by omega⟩) ⟨by omega, by omega⟩) ⟨by omega, by omega⟩⟩
  refine ⟨?_, ?_, ?_, fun u hu => ?_, fun p hp => ?_⟩
  · rw [h1, if_neg (by omega), if_neg (by omega), if_neg (by omega), if_neg (by omega)]
    exact h.1
  · rw [h1, if_neg (by omega), if_neg (by omega), if_neg (by omega), if_neg (by omega)]
    exact h.2.1
  · rw [h1, if_neg (by omega), if_neg (by omega), if_neg (by omega), if_neg (by omega)]
    exact h.2.2.1
  · have q := h.2.2.2.1 u hu
    show upd (m.I 10) t v u = _ ∧ upd (m.I 11) t kd u = _ ∧ upd (m.I 12) t r u = _ ∧ upd (m.I 13) t st u = _ ∧ vp_updL (m.J 14) t X u = _
    rw [h1, h1, h1, h1]
    simp only [upd_g, updL_g]
    by_cases c : u = t
    · subst c
      refine ⟨by rw [if_pos rfl, if_pos rfl], by rw [if_pos rfl, if_neg (by omega), if_pos rfl], by rw [if_pos rfl, if_neg (by omega), if_neg (by omega), if_pos rfl], by rw [if_pos rfl, if_neg (by omega), if_neg (by omega), if_neg (by omega), if_pos rfl], by rw [if_pos rfl, if_pos rfl]⟩
    · simp only [if_neg c]
      rw [if_neg (by omega), if_neg (by omega), if_neg (by omega), if_neg (by omega), if_neg (by omega), if_neg (by omega), if_neg (by omega), if_neg (by omega), if_neg (by omega), if_neg (by omega), if_neg (by omega), if_neg (by omega), if_neg (by omega), if_neg (by omega), if_neg (by omega), if_neg (by omega)]
      exact q
  · have q := h.2.2.2.2 p hp
    rw [h1, h1]
    rw [if_neg (by omega), if_neg (by omega), if_neg (by omega), if_neg (by omega), if_neg (by omega), if_neg (by omega), if_neg (by omega), if_neg (by omega)]
    exact q
theorem c9_unknown {m : Mem} {s : Nat → Int32} {M : Nat → Int64} (h : RS 9 m s M) {t : Nat} (ht : t < 56) : ∃ m1, f_X2_setUnknown 9 (nI t) (HH m) = some (HH m1) ∧ RS 9 m1 (clr t s) (vp_updL M t 0) ∧ Fr (cS 9) m m1 :=
  ⟨_, s9_unknown m ht, RS_set h (fun k => by
    rw [clr_g]
    (repeat' split) <;> first | rfl | omega) ht⟩
theorem c9_given {m : Mem} {s : Nat → Int32} {M : Nat → Int64} (h : RS 9 m s M) {t : Nat} (ht : t < 56) (v : Int32) : ∃ m1, f_X2_setGiven 9 (nI t) v (HH m) = some (HH m1) ∧ RS 9 m1 (gvn t v s) (vp_updL M t ((1 : Int64) <<< ((nI t).toInt64 &&& 63))) ∧ Fr (cS 9) m m1 :=
  ⟨_, s9_given m ht v, RS_set h (fun k => by
    rw [gvn_g]
    (repeat' split) <;> first | rfl | omega) ht⟩
theorem c9_derived {m : Mem} {s : Nat → Int32} {M : Nat → Int64} (h : RS 9 m s M) {t : Nat} (ht : t < 56) (v r st : Int32) (X : Int64) : ∃ m1, f_X2_setDerived 9 (nI t) v r st X (HH m) = some (HH m1) ∧ RS 9 m1 (drv t v r st s) (vp_updL M t X) ∧ Fr (cS 9) m m1 :=
  ⟨_, s9_derived m ht v r st X, RS_set h (fun k => drv_g v r st k) ht⟩
theorem c9_clash {m : Mem} {s : Nat → Int32} {M : Nat → Int64} (h : RS 9 m s M) (x : Int32) : RS 9 (m.sI 9 2 x) (upd s 2 x) M ∧ Fr (cS 9) m (m.sI 9 2 x) := by
  refine ⟨⟨?_, ?_, ?_, fun u hu => ?_, fun p hp => ?_⟩, Fr_sI (Fr_rf _ m) ⟨by omega, by omega⟩⟩
  · show upd (m.I 9) 2 x 0 = upd s 2 x 0
    rw [upd_g, upd_g, if_neg (by omega), if_neg (by omega)]
    exact h.1
  · show upd (m.I 9) 2 x 1 = upd s 2 x 1
    rw [upd_g, upd_g, if_neg (by omega), if_neg (by omega)]
    exact h.2.1
  · show upd (m.I 9) 2 x 2 = upd s 2 x 2
    rw [upd_g, upd_g, if_pos rfl, if_pos rfl]
  · rw [upd_g, upd_g, upd_g, upd_g, if_neg (by omega), if_neg (by omega), if_neg (by omega), if_neg (by omega)]
    exact h.2.2.2.1 u hu
  · rw [upd_g, upd_g, if_neg (by omega), if_neg (by omega)]
    exact h.2.2.2.2 p hp
/-! what forgetting leaves -/
theorem frg_o {s : Nat → Int32} {k : Nat} : ∀ {n : Nat}, (k < 3 ∨ 3 + 4 * n ≤ k) → frg s n k = s k := by
  intro n
  induction n with
  | zero => intro _; rfl
  | succ n ih =>
    intro h
    unfold frg
    split
    · rw [clr_g, if_neg (by omega), if_neg (by omega)]
      exact ih (by omega)
    · exact ih (by omega)
theorem frg_i {s : Nat → Int32} {t w : Nat} (hw : w < 4) : ∀ {n : Nat}, t < n → frg s n (3 + 4 * t + w) = if s (3 + 4 * t + 1) = 2 then clr t s (3 + 4 * t + w) else s (3 + 4 * t + w) := by
  intro n
  induction n with
  | zero => intro h; omega
  | succ n ih =>
    intro h
    unfold frg
    rw [frg_o (s := s) (k := 3 + 4 * n + 1) (n := n) (by omega)]
    by_cases c : t = n
    · subst c
      split
      · rw [clr_g, clr_g]
        rw [frg_o (by omega)]
      · exact frg_o (by omega)
    · split
      · rw [clr_g, if_neg (by omega), if_neg (by omega)]
        exact ih (by omega)
      · exact ih (by omega)
/-- a row when all derived ones under T are forgotten -/
def fgt (T : Nat) (s : Nat → Int32) : Nat → Int32 := upd (frg s T) 2 (-100)
def fgtM (s : Nat → Int32) (M : Nat → Int64) : Nat → Int64 := fun t => if s (3 + 4 * t + 1) = 2 then 0 else M t
theorem fgt_kd {s : Nat → Int32} {T t : Nat} (ht : t < T) : fgt T s (3 + 4 * t + 1) = if s (3 + 4 * t + 1) = 2 then 0 else s (3 + 4 * t + 1) := by
  unfold fgt
  rw [upd_g, if_neg (by omega), frg_i (by omega) ht]
  split
  · rw [clr_g, if_neg (by omega), if_pos rfl]
  · rfl
/-- no triple from T on is derived -/
def noD (T : Nat) (s : Nat → Int32) : Prop := ∀ t, T ≤ t → t < 56 → s (3 + 4 * t + 1) ≠ 2
theorem frg_up {s : Nat → Int32} {T : Nat} (h : noD T s) : ∀ d, T + d ≤ 56 → frg s (T + d) = frg s T := by
  intro d
  induction d with
  | zero => intro _; rfl
  | succ d ih =>
    intro hd
    show (if frg s (T + d) (3 + 4 * (T + d) + 1) = 2 then clr (T + d) (frg s (T + d)) else frg s (T + d)) = _
    rw [frg_o (by omega), if_neg (h (T + d) (by omega) (by omega))]
    exact ih (by omega)
theorem many_up {s : Nat → Int32} {T : Nat} {kd : Int32} (h : ∀ t, T ≤ t → t < 56 → s (3 + 4 * t + 1) ≠ kd) : ∀ d, T + d ≤ 56 → many s kd (T + d) = many s kd T := by
  intro d
  induction d with
  | zero => intro _; rfl
  | succ d ih =>
    intro hd
    show (if s (3 + 4 * (T + d) + 1) = kd then many s kd (T + d) + 1 else many s kd (T + d)) = _
    rw [if_neg (h (T + d) (by omega) (by omega))]
    exact ih (by omega)
theorem c9_forget {m : Mem} {s : Nat → Int32} {M : Nat → Int64} (h : RS 9 m s M) {T : Nat} (hT : T ≤ 56) (hn : noD T s) : ∃ m1, f_X2_forgetDerived 9 (HH m) = some (nI (many s 2 T), HH m1) ∧ RS 9 m1 (fgt T s) (fgtM s M) ∧ Fr (cS 9) m m1 := by
  obtain ⟨h0, f0⟩ := c9_clash h (-100)
  have key : ∃ b, l_X2_forgetDerived_10 9 FU (nI 0) (nI 0) (HH (m.sI 9 2 (-100))) = some b ∧ ∃ m1, b = (nI (many s 2 56), HH m1) ∧ RS 9 m1 (upd (frg s 56) 2 (-100)) (fun t => if t < 56 ∧ s (3 + 4 * t + 1) = 2 then 0 else M t) ∧ Fr (cS 9) m m1 := by
    refine loopR (fun fuel (a : Int32 × Int32 × Hp) => l_X2_forgetDerived_10 9 fuel a.1 a.2.1 a.2.2) (fun k a => ∃ m1, a = (nI (many s 2 k), nI k, HH m1) ∧ RS 9 m1 (upd (frg s k) 2 (-100)) (fun t => if t < k ∧ s (3 + 4 * t + 1) = 2 then 0 else M t) ∧ Fr (cS 9) m m1) _ 56 ?_ ?_ 56 0 (nI 0, nI 0, HH (m.sI 9 2 (-100))) FU (by omega) (FUx (by omega)) ⟨_, rfl, RS_cg h0 (fun k _ => rfl) (fun t _ => if_neg (fun c => by omega)), f0⟩
    · rintro k a fuel hk ⟨m1, rfl, hr, hf⟩
      have e := (hr.2.2.2.1 k (by omega)).2.1
      rw [upd_g, if_neg (by omega), frg_o (by omega)] at e
      simp (disch := omega) only [l_X2_forgetDerived_10, le56, if_neg (show ¬ 56 ≤ k by omega), o_0, g_0_0, g_0_1, g_0_2, g_0_3, g_0_4, g_0_5, g_0_6, g_0_7, g_0_8, g_0_9, g_0_10, g_0_11, o_1, g_1_0, g_1_1, g_1_2, g_1_3, g_1_4, g_1_5, g_1_6, g_1_7, g_1_8, g_1_9, r_2, r_3, r_4, r_5, r_6, r_7, r_8, o_9, g_9_0, g_9_1, g_9_2, g_9_3, g_9_4, g_9_5, g_9_6, g_9_7, g_9_8, g_9_9, r_10, r_11, r_12, r_13, r_14, r_15, r_16, o_17, g_17_0, g_17_1, g_17_2, g_17_3, g_17_4, r_18, r_19, r_20, r_22, r_23, r_24, r_25, r_26, r_27, r_28, o_29, g_29_0, g_29_1, g_29_2, g_29_3, g_29_4, g_29_5, g_29_6, g_29_7, g_29_8, g_29_9, r_30, r_31, r_32, r_33, r_34, r_35, r_36, o_37, g_37_0, g_37_1, g_37_2, g_37_3, g_37_4, g_37_5, g_37_6, g_37_7, g_37_8, g_37_9, r_38, r_39, r_40, r_41, r_42, r_43, r_44, o_45, g_45_0, g_45_1, g_45_2, g_45_3, g_45_4, g_45_5, g_45_6, g_45_7, g_45_8, g_45_9, r_46, r_47, r_48, r_49, r_50, r_51, r_52, o_53, g_53_0, g_53_1, g_53_2, g_53_3, g_53_4, g_53_5, g_53_6, g_53_7, g_53_8, g_53_9, r_54, r_55, r_56, r_57, r_58, r_59, r_60, o_61, g_61_0, g_61_1, g_61_2, g_61_3, g_61_4, g_61_5, g_61_6, g_61_7, g_61_8, g_61_9, g_61_10, g_61_11, g_61_12, g_61_13, g_61_14, g_61_15, g_61_16, g_61_17, g_61_18, g_61_19, g_61_20, g_61_21, g_61_22, g_61_23, r_62, r_63, r_64, r_65, r_66, r_67, r_68, r_69, r_70, r_71, r_72, r_73, r_74, r_75, r_76, r_77, Option.bind_some, e]
      by_cases c : s (3 + 4 * k + 1) = 2
      · obtain ⟨m2, e2, hr2, hf2⟩ := c9_unknown hr (t := k) (by omega)
        refine Or.inl ⟨(nI (many s 2 (k + 1)), nI (k + 1), HH m2), ?_, m2, rfl, ?_, Fr_tr hf hf2⟩
        · simp only [if_pos c, e2, Option.bind_some, bind2, add1]
          rw [many_s, if_pos c]
        · refine RS_cg hr2 (fun j hj => ?_) (fun t ht => ?_)
          · rw [frg_s, frg_o (s := s) (k := 3 + 4 * k + 1) (n := k) (by omega), if_pos c, upd_g, clr_g, clr_g, upd_g]
            (repeat' split) <;> first | rfl | omega
          · rw [updL_g]
            by_cases ct : t = k
            · rw [if_pos ct, if_pos ⟨by omega, by rw [ct]; exact c⟩]
            · rw [if_neg ct]
              exact ifI ⟨fun q => ⟨by omega, q.2⟩, fun q => ⟨by omega, q.2⟩⟩
      · refine Or.inl ⟨(nI (many s 2 (k + 1)), nI (k + 1), HH m1), ?_, m1, rfl, ?_, hf⟩
        · simp only [if_neg c, Option.bind_some, bind2, add1]
          rw [many_s, if_neg c]
        · refine RS_cg hr (fun j hj => ?_) (fun t ht => ?_)
          · rw [frg_s, frg_o (s := s) (k := 3 + 4 * k + 1) (n := k) (by omega), if_neg c]
          · refine ifI ⟨fun q => ⟨?_, q.2⟩, fun q => ⟨by omega, q.2⟩⟩
            by_cases ct : t = k
            · exact absurd (by rw [← ct]; exact q.2) c
            · omega
    · rintro a fuel ⟨m1, rfl, hr, hf⟩
      refine ⟨_, ?_, m1, rfl, hr, hf⟩
      simp (disch := omega) only [l_X2_forgetDerived_10, le56, if_pos (Nat.le_refl 56)]
  obtain ⟨b, e, m1, rfl, hr, hf⟩ := key
  refine ⟨m1, ?_, ?_, hf⟩
  · simp only [f_X2_forgetDerived, o_9, p_9_2, Option.bind_some]
    rw [show l_X2_forgetDerived_10 9 FU 0 0 _ = _ from e]
    simp only [bind2]
    have := many_up (kd := 2) hn (56 - T) (by omega)
    rw [show T + (56 - T) = 56 by omega] at this
    rw [this]
  · refine RS_cg hr (fun j hj => ?_) (fun t ht => ?_)
    · have := frg_up hn (56 - T) (by omega)
      rw [show T + (56 - T) = 56 by omega] at this
      rw [this]
      rfl
    · show (if _ then _ else _) = if _ then _ else _
      exact ifI ⟨fun q => ⟨ht, q⟩, fun q => q.2⟩
theorem m_forgets (m : Mem) {T : Nat} (hT : T ≤ 56) (h9 : m.I 61 9 = nI T) : f_X4_forgets 61 (HH m) = some (nI (many (m.I 62) 2 T), HH (m.rI 62 (fgt T (m.I 62)))) := by
  have key : ∃ b, l_X4_forgets_4 61 FU (nI 0) (nI 0) (HH m) = some b ∧ b = (nI (many (m.I 62) 2 T), HH (m.rI 62 (frg (m.I 62) T))) := by
    refine loopR (fun fuel (a : Int32 × Int32 × Hp) => l_X4_forgets_4 61 fuel a.1 a.2.1 a.2.2) (fun k a => a = (nI (many (m.I 62) 2 k), nI k, HH (m.rI 62 (frg (m.I 62) k)))) _ T ?_ ?_ T 0 (nI 0, nI 0, HH m) FU (by omega) (FUx (by omega)) (by
      show _ = (nI 0, nI 0, HH (m.rI 62 (m.I 62)))
      rw [rI_id])
    · rintro k a fuel hk rfl
      refine Or.inl ⟨(nI (many (m.I 62) 2 (k + 1)), nI (k + 1), HH (m.rI 62 (frg (m.I 62) (k + 1)))), ?_, rfl⟩
      have e9 : (m.rI 62 (frg (m.I 62) k)).I 61 9 = nI T := h9
      simp (disch := omega) only [l_X4_forgets_4, g_61_9, e9, leN, get_1, if_neg (show ¬ T ≤ k by omega), Option.bind_some, rI_I]
      have ek := frg_o (s := m.I 62) (k := 3 + 4 * k + 1) (n := k) (by omega)
      rw [ek, many_s, frg_s, ek]
      by_cases c : m.I 62 (3 + 4 * k + 1) = 2
      · simp (disch := omega) only [if_pos c, m_clears, rI_I, rI_rI, Option.bind_some, bind2, add_1]
      · simp only [if_neg c, Option.bind_some, bind2, add_1]
    · rintro a fuel rfl
      refine ⟨_, ?_, rfl⟩
      have e9 : (m.rI 62 (frg (m.I 62) T)).I 61 9 = nI T := h9
      simp (disch := omega) only [l_X4_forgets_4, g_61_9, e9, leN, if_pos (Nat.le_refl T), Option.bind_some]
  obtain ⟨b, e, rfl⟩ := key
  simp only [f_X4_forgets, o_61, Option.bind_some]
  rw [show l_X4_forgets_4 61 FU 0 0 _ = _ from e]
  have w := w_62 (m.rI 62 (frg (m.I 62) T)) (i := 2) (by omega) (-100)
  simp only [bind2, g_61_0, Option.bind_some]
  rw [show wI (HH (m.rI 62 (frg (m.I 62) T))) 62 2 (-100) = _ from w]
  simp only [Option.bind_some, rI_sI]
  rfl
end Forget
