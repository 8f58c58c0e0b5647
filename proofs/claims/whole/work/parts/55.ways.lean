/-! completions: what is counted -/
theorem lgc (x y : Int64) : lg_cmp x y = 0 ↔ x = y := by
  unfold lg_cmp
  by_cases c : x > y
  · rw [if_pos c]
    refine ⟨fun h => absurd h (by decide), fun h => ?_⟩
    subst h
    exact absurd c (Int64.lt_irrefl (a := x))
  · rw [if_neg c]
    by_cases d : x = y
    · rw [if_pos d]
      exact ⟨fun _ => d, fun _ => rfl⟩
    · rw [if_neg d]
      exact ⟨fun h => absurd h (by decide), fun h => absurd h d⟩
/-- the unknown triples, in order -/
def opn (s : Nat → Int32) : Nat → Nat × (Nat → Nat)
  | 0 => (0, fun _ => 0)
  | t + 1 => if s (3 + 4 * t + 1) = 0 then ((opn s t).1 + 1, fun j => if j = (opn s t).1 then t else (opn s t).2 j) else opn s t
theorem opn_s (s : Nat → Int32) (t : Nat) : opn s (t + 1) = if s (3 + 4 * t + 1) = 0 then ((opn s t).1 + 1, fun j => if j = (opn s t).1 then t else (opn s t).2 j) else opn s t := rfl
theorem opn_n (s : Nat → Int32) : ∀ t, (opn s t).1 = many s 0 t := by
  intro t
  induction t with
  | zero => rfl
  | succ t ih =>
    rw [opn_s, many_s]
    split
    · show (opn s t).1 + 1 = _
      rw [ih]
    · exact ih
theorem opn_k (s : Nat → Int32) : ∀ t k, k < (opn s t).1 → s (3 + 4 * (opn s t).2 k + 1) = 0 ∧ (opn s t).2 k < t := by
  intro t
  induction t with
  | zero => intro k hk; exact absurd hk (Nat.not_lt_zero k)
  | succ t ih =>
    intro k
    rw [opn_s]
    by_cases c : s (3 + 4 * t + 1) = 0
    · rw [if_pos c]
      intro hk
      have hk : k < (opn s t).1 + 1 := hk
      show s (3 + 4 * (if k = (opn s t).1 then t else (opn s t).2 k) + 1) = 0 ∧ (if k = (opn s t).1 then t else (opn s t).2 k) < t + 1
      by_cases d : k = (opn s t).1
      · rw [if_pos d]
        exact ⟨c, by omega⟩
      · rw [if_neg d]
        have := ih k (by omega)
        exact ⟨this.1, by omega⟩
    · rw [if_neg c]
      intro hk
      have := ih k hk
      exact ⟨this.1, by omega⟩
theorem opn_inj (s : Nat → Int32) : ∀ t j k, j < k → k < (opn s t).1 → (opn s t).2 j < (opn s t).2 k := by
  intro t
  induction t with
  | zero => intro j k _ hk; exact absurd hk (Nat.not_lt_zero k)
  | succ t ih =>
    intro j k hjk
    rw [opn_s]
    by_cases c : s (3 + 4 * t + 1) = 0
    · rw [if_pos c]
      intro hk
      have hk : k < (opn s t).1 + 1 := hk
      show (if j = (opn s t).1 then t else (opn s t).2 j) < if k = (opn s t).1 then t else (opn s t).2 k
      by_cases d : k = (opn s t).1
      · rw [if_pos d, if_neg (by omega)]
        exact (opn_k s t j (by omega)).2
      · rw [if_neg d, if_neg (by omega)]
        exact ih j k hjk (by omega)
    · rw [if_neg c]
      exact ih j k hjk
theorem opn_up (s : Nat → Int32) (t : Nat) : ∀ d, (opn s t).1 ≤ (opn s (t + d)).1 ∧ ∀ k, k < (opn s t).1 → (opn s (t + d)).2 k = (opn s t).2 k := by
  intro d
  induction d with
  | zero => exact ⟨Nat.le_refl _, fun _ _ => rfl⟩
  | succ d ih =>
    show (opn s t).1 ≤ (opn s (t + d + 1)).1 ∧ _
    rw [show t + (d + 1) = t + d + 1 by omega, opn_s]
    by_cases c : s (3 + 4 * (t + d) + 1) = 0
    · rw [if_pos c]
      refine ⟨?_, fun k hk => ?_⟩
      · show (opn s t).1 ≤ (opn s (t + d)).1 + 1
        have := ih.1
        omega
      · show (if k = (opn s (t + d)).1 then t + d else (opn s (t + d)).2 k) = _
        rw [if_neg (by have := ih.1; omega)]
        exact ih.2 k hk
    · rw [if_neg c]
      exact ih
/-- signs for the unknown triples from the p-th on, d of them, by the bits of x -/
def asn (f : Nat → Nat) : Nat → Nat → Nat → (Nat → Int32) → (Nat → Int32)
  | 0, _, _, r => r
  | d + 1, p, x, r => asn f d (p + 1) (x / 2) (upd r (3 + 4 * f p) (if x % 2 = 1 then 1 else -1))
theorem asn_s (f : Nat → Nat) (d p x : Nat) (r : Nat → Int32) : asn f (d + 1) p x r = asn f d (p + 1) (x / 2) (upd r (3 + 4 * f p) (if x % 2 = 1 then 1 else -1)) := rfl
theorem asn_cg {f : Nat → Nat} : ∀ d p x (r r' : Nat → Int32), (∀ j, (∀ k, p ≤ k → k < p + d → j ≠ 3 + 4 * f k) → r j = r' j) → asn f d p x r = asn f d p x r' := by
  intro d
  induction d with
  | zero =>
    intro p x r r' h
    funext j
    exact h j (fun k h1 h2 => by omega)
  | succ d ih =>
    intro p x r r' h
    rw [asn_s, asn_s]
    refine ih _ _ _ _ (fun j hj => ?_)
    rw [upd_g, upd_g]
    by_cases c : j = 3 + 4 * f p
    · rw [if_pos c, if_pos c]
    · rw [if_neg c, if_neg c]
      refine h j (fun k h1 h2 => ?_)
      by_cases ck : k = p
      · rw [ck]; exact c
      · exact hj k (by omega) (by omega)
theorem asn_ok {T : Nat} {f : Nat → Nat} : ∀ d p x (r : Nat → Int32), okS T r → okS T (asn f d p x r) := by
  intro d
  induction d with
  | zero => intro p x r h; exact h
  | succ d ih =>
    intro p x r h
    rw [asn_s]
    refine ih _ _ _ (fun t ht => ?_)
    rw [upd_g]
    split
    · refine Or.inr ?_
      split
      · exact Or.inr (Or.inr rfl)
      · exact Or.inl rfl
    · exact h t ht
theorem asn_o {f : Nat → Nat} {j : Nat} : ∀ d p x (r : Nat → Int32), (∀ k, p ≤ k → k < p + d → j ≠ 3 + 4 * f k) → asn f d p x r j = r j := by
  intro d
  induction d with
  | zero => intro p x r h; rfl
  | succ d ih =>
    intro p x r h
    rw [asn_s, ih _ _ _ (fun k h1 h2 => h k (by omega) (by omega)), upd_g, if_neg (h p (Nat.le_refl p) (by omega))]
/-- how many completions there are -/
def Cn (n : Nat) (f : Nat → Nat) : Nat → Nat → (Nat → Int32) → Nat
  | 0, _, r => if viol n r (nR n) = 0 then 1 else 0
  | d + 1, p, r => Cn n f d (p + 1) (upd r (3 + 4 * f p) (-1)) + Cn n f d (p + 1) (upd r (3 + 4 * f p) 1)
theorem Cn_s (n : Nat) (f : Nat → Nat) (d p : Nat) (r : Nat → Int32) : Cn n f (d + 1) p r = Cn n f d (p + 1) (upd r (3 + 4 * f p) (-1)) + Cn n f d (p + 1) (upd r (3 + 4 * f p) 1) := rfl
theorem cntN_2 (p : Nat → Prop) [DecidablePred p] : ∀ N, cntN p (2 * N) = cntN (fun y => p (2 * y)) N + cntN (fun y => p (2 * y + 1)) N := by
  intro N
  induction N with
  | zero => rfl
  | succ N ih =>
    rw [show 2 * (N + 1) = 2 * N + 1 + 1 by omega]
    show (if p (2 * N + 1) then (if p (2 * N) then cntN p (2 * N) + 1 else cntN p (2 * N)) + 1 else (if p (2 * N) then cntN p (2 * N) + 1 else cntN p (2 * N))) = (if p (2 * N) then cntN (fun y => p (2 * y)) N + 1 else cntN (fun y => p (2 * y)) N) + (if p (2 * N + 1) then cntN (fun y => p (2 * y + 1)) N + 1 else cntN (fun y => p (2 * y + 1)) N)
    rw [ih]
    (repeat' split) <;> omega
theorem Cn_e (n : Nat) (f : Nat → Nat) : ∀ d p (r : Nat → Int32), Cn n f d p r = cntN (fun x => viol n (asn f d p x r) (nR n) = 0) (2 ^ d) := by
  intro d
  induction d with
  | zero =>
    intro p r
    show (if viol n r (nR n) = 0 then 1 else 0) = cntN _ (0 + 1)
    show _ = if viol n r (nR n) = 0 then 0 + 1 else 0
    split <;> rfl
  | succ d ih =>
    intro p r
    rw [Cn_s, ih, ih, Nat.pow_succ, Nat.mul_comm (2 ^ d) 2, cntN_2]
    have e0 : ∀ y, asn f (d + 1) p (2 * y) r = asn f d (p + 1) y (upd r (3 + 4 * f p) (-1)) := fun y => by
      rw [asn_s, if_neg (by omega), show 2 * y / 2 = y by omega]
    have e1 : ∀ y, asn f (d + 1) p (2 * y + 1) r = asn f d (p + 1) y (upd r (3 + 4 * f p) 1) := fun y => by
      rw [asn_s, if_pos (by omega), show (2 * y + 1) / 2 = y by omega]
    refine congr (congrArg _ ?_) ?_
    · exact cntN_cg _ _ _ (fun k _ => by rw [e0])
    · exact cntN_cg _ _ _ (fun k _ => by rw [e1])
/-- a relation that is violated stays so -/
theorem vd_keep {n r t : Nat} {s : Nat → Int32} (h : vd n r s = -1) (ht : s (3 + 4 * t) = -100) (v : Int32) : vd n r (upd s (3 + 4 * t) v) = -1 := by
  rw [← h]
  have hu : unk n r s 6 = 0 := by
    rcases vd_3 n r s with ⟨e, u⟩ | ⟨e, u⟩ | ⟨e, u⟩
    · exact u
    · exact u
    · rw [e] at h
      exact absurd h (by decide)
  refine vd_cg (fun w hw => ?_)
  have := (cntN_0 _ 6).mp hu w hw
  show upd s (3 + 4 * t) v (3 + 4 * fac n r w) = s (3 + 4 * fac n r w)
  rw [upd_g]
  by_cases c : fac n r w = t
  · exfalso
    refine this ?_
    show s (3 + 4 * fac n r w) = -100
    rw [c]
    exact ht
  · rw [if_neg (by omega)]
theorem viol_ex {n : Nat} {s : Nat → Int32} : viol n s (nR n) = 0 ↔ ∀ r, r < nR n → ¬ vd n r s = -1 := cntN_0 _ _
theorem Cn_0 (n : Nat) (f : Nat → Nat) : ∀ d p (r : Nat → Int32), viol n r (nR n) ≠ 0 → (∀ k, p ≤ k → k < p + d → r (3 + 4 * f k) = -100) → (∀ j k, p ≤ j → j < k → k < p + d → f j < f k) → Cn n f d p r = 0 := by
  intro d
  induction d with
  | zero => intro p r h _ _; exact if_neg h
  | succ d ih =>
    intro p r h hk hi
    have go : ∀ v, Cn n f d (p + 1) (upd r (3 + 4 * f p) v) = 0 := by
      intro v
      refine ih _ _ (fun h0 => h (viol_ex.mpr (fun q hq hv => ?_))) (fun k h1 h2 => ?_) (fun j k h1 h2 h3 => hi j k (by omega) h2 (by omega))
      · exact viol_ex.mp h0 q hq (vd_keep hv (hk p (Nat.le_refl p) (by omega)) v)
      · rw [upd_g, if_neg (by have := hi p k (Nat.le_refl p) (by omega) (by omega); omega)]
        exact hk k (by omega) (by omega)
    rw [Cn_s, go, go]
/-- violated relations of a triple -/
def inF (n r t : Nat) : Nat := cntN (fun w => fac n r w = t) 6
def vt (n : Nat) (s : Nat → Int32) (t k : Nat) : Nat := cntN (fun r => inF n r t ≠ 0 ∧ vd n r s = -1) k
theorem vt_s (n : Nat) (s : Nat → Int32) (t k : Nat) : vt n s t (k + 1) = if inF n k t ≠ 0 ∧ vd n k s = -1 then vt n s t k + 1 else vt n s t k := rfl
theorem inF_e {n r t : Nat} : inF n r t ≠ 0 ↔ ∃ w, w < 6 ∧ fac n r w = t := by
  constructor
  · intro h
    refine Classical.byContradiction (fun q => h ((cntN_0 _ 6).mpr (fun k hk e => q ⟨k, hk, e⟩)))
  · rintro ⟨w, hw, e⟩ h
    exact (cntN_0 _ 6).mp h w hw e
theorem viol_up {n t : Nat} {s : Nat → Int32} {v : Int32} (h : viol n s (nR n) = 0) : viol n (upd s (3 + 4 * t) v) (nR n) = 0 ↔ vt n (upd s (3 + 4 * t) v) t (nR n) = 0 := by
  constructor
  · intro h0
    exact (cntN_0 _ _).mpr (fun r hr q => viol_ex.mp h0 r hr q.2)
  · intro h0
    refine viol_ex.mpr (fun r hr hv => ?_)
    by_cases c : inF n r t = 0
    · refine viol_ex.mp h r hr ?_
      rw [← hv]
      refine (vd_cg (fun w hw => ?_)).symm
      show upd s (3 + 4 * t) v (3 + 4 * fac n r w) = s (3 + 4 * fac n r w)
      have := (cntN_0 _ 6).mp c w hw
      rw [upd_g, if_neg (by omega)]
    · exact (cntN_0 _ _).mp h0 r hr ⟨c, hv⟩
/-! the class -/
theorem c_vw {n : Nat} (hn : n38 n) {m : Mem} (hL : LC n m) {s : Nat → Int32} {M : Nat → Int64} (hs : RS 9 m s M) {t : Nat} (ht : t < nT n) : f_X0_isViolatedWith 1 (nI t) 10 (HH m) = some (b01 (vt n s t (nR n))) := by
  have hR := nR_le hn
  have hT := nT_le hn
  have key : ∃ b, l_X0_isViolatedWith_7 1 10 (bitT t) (HH m) FU (nI 0) = some b ∧ ((b = .inl () ∧ vt n s t (nR n) = 0) ∨ (b = .inr 1 ∧ vt n s t (nR n) ≠ 0)) := by
    refine loopR (fun fuel (a : Int32) => l_X0_isViolatedWith_7 1 10 (bitT t) (HH m) fuel a) (fun k a => a = nI k ∧ vt n s t k = 0) _ (nR n) ?_ ?_ (nR n) 0 (nI 0) FU (by omega) (FUx (by omega)) ⟨rfl, rfl⟩
    · rintro k a fuel hk ⟨rfl, hv⟩
      have hm : (m.J 8 k &&& bitT t) ≠ 0 ↔ inF n k t ≠ 0 := ((hL.2.2.2.2.2 k hk).2.2.2 t (by omega)).trans inF_e.symm
      simp (disch := omega) only [l_X0_isViolatedWith_7, o_0, g_0_0, g_0_1, g_0_2, g_0_3, g_0_4, g_0_5, g_0_6, g_0_7, g_0_8, g_0_9, g_0_10, g_0_11, o_1, g_1_0, g_1_1, g_1_2, g_1_3, g_1_4, g_1_5, g_1_6, g_1_7, g_1_8, g_1_9, r_2, r_3, r_4, r_5, r_6, r_7, r_8, o_9, g_9_0, g_9_1, g_9_2, g_9_3, g_9_4, g_9_5, g_9_6, g_9_7, g_9_8, g_9_9, r_10, r_11, r_12, r_13, r_14, r_15, r_16, o_17, g_17_0, g_17_1, g_17_2, g_17_3, g_17_4, r_18, r_19, r_20, r_22, r_23, r_24, r_25, r_26, r_27, r_28, o_29, g_29_0, g_29_1, g_29_2, g_29_3, g_29_4, g_29_5, g_29_6, g_29_7, g_29_8, g_29_9, r_30, r_31, r_32, r_33, r_34, r_35, r_36, o_37, g_37_0, g_37_1, g_37_2, g_37_3, g_37_4, g_37_5, g_37_6, g_37_7, g_37_8, g_37_9, r_38, r_39, r_40, r_41, r_42, r_43, r_44, o_45, g_45_0, g_45_1, g_45_2, g_45_3, g_45_4, g_45_5, g_45_6, g_45_7, g_45_8, g_45_9, r_46, r_47, r_48, r_49, r_50, r_51, r_52, o_53, g_53_0, g_53_1, g_53_2, g_53_3, g_53_4, g_53_5, g_53_6, g_53_7, g_53_8, g_53_9, r_54, r_55, r_56, r_57, r_58, r_59, r_60, o_61, g_61_0, g_61_1, g_61_2, g_61_3, g_61_4, g_61_5, g_61_6, g_61_7, g_61_8, g_61_9, g_61_10, g_61_11, g_61_12, g_61_13, g_61_14, g_61_15, g_61_16, g_61_17, g_61_18, g_61_19, g_61_20, g_61_21, g_61_22, g_61_23, r_62, r_63, r_64, r_65, r_66, r_67, r_68, r_69, r_70, r_71, r_72, r_73, r_74, r_75, r_76, r_77, Option.bind_some, leN, hL.2.2.1, if_neg (show ¬ nR n ≤ k by omega), lgc, cl_vdv hn hL hs hk, add1]
      by_cases c : (m.J 8 k &&& bitT t) = 0
      · rw [if_pos c]
        exact Or.inl ⟨_, rfl, rfl, by rw [vt_s, if_neg (fun h => (hm.mpr h.1) c)]; exact hv⟩
      · rw [if_neg c]
        rcases vd_3 n k s with ⟨e, u⟩ | ⟨e, u⟩ | ⟨e, u⟩
        · rw [e, if_pos (by decide)]
          exact Or.inl ⟨_, rfl, rfl, by rw [vt_s, if_neg (fun h => by rw [e] at h; exact absurd h.2 (by decide))]; exact hv⟩
        · rw [e, if_neg (by decide)]
          exact Or.inr ⟨_, rfl, Or.inr ⟨rfl, fun h => (cntN_0 _ _).mp h k hk ⟨hm.mp c, e⟩⟩⟩
        · rw [e, if_pos (by decide)]
          exact Or.inl ⟨_, rfl, rfl, by rw [vt_s, if_neg (fun h => by rw [e] at h; exact absurd h.2 (by decide))]; exact hv⟩
    · rintro a fuel ⟨rfl, hv⟩
      refine ⟨_, ?_, Or.inl ⟨rfl, hv⟩⟩
      simp (disch := omega) only [l_X0_isViolatedWith_7, o_0, g_0_0, g_0_1, g_0_2, g_0_3, g_0_4, g_0_5, g_0_6, g_0_7, g_0_8, g_0_9, g_0_10, g_0_11, o_1, g_1_0, g_1_1, g_1_2, g_1_3, g_1_4, g_1_5, g_1_6, g_1_7, g_1_8, g_1_9, r_2, r_3, r_4, r_5, r_6, r_7, r_8, o_9, g_9_0, g_9_1, g_9_2, g_9_3, g_9_4, g_9_5, g_9_6, g_9_7, g_9_8, g_9_9, r_10, r_11, r_12, r_13, r_14, r_15, r_16, o_17, g_17_0, g_17_1, g_17_2, g_17_3, g_17_4, r_18, r_19, r_20, r_22, r_23, r_24, r_25, r_26, r_27, r_28, o_29, g_29_0, g_29_1, g_29_2, g_29_3, g_29_4, g_29_5, g_29_6, g_29_7, g_29_8, g_29_9, r_30, r_31, r_32, r_33, r_34, r_35, r_36, o_37, g_37_0, g_37_1, g_37_2, g_37_3, g_37_4, g_37_5, g_37_6, g_37_7, g_37_8, g_37_9, r_38, r_39, r_40, r_41, r_42, r_43, r_44, o_45, g_45_0, g_45_1, g_45_2, g_45_3, g_45_4, g_45_5, g_45_6, g_45_7, g_45_8, g_45_9, r_46, r_47, r_48, r_49, r_50, r_51, r_52, o_53, g_53_0, g_53_1, g_53_2, g_53_3, g_53_4, g_53_5, g_53_6, g_53_7, g_53_8, g_53_9, r_54, r_55, r_56, r_57, r_58, r_59, r_60, o_61, g_61_0, g_61_1, g_61_2, g_61_3, g_61_4, g_61_5, g_61_6, g_61_7, g_61_8, g_61_9, g_61_10, g_61_11, g_61_12, g_61_13, g_61_14, g_61_15, g_61_16, g_61_17, g_61_18, g_61_19, g_61_20, g_61_21, g_61_22, g_61_23, r_62, r_63, r_64, r_65, r_66, r_67, r_68, r_69, r_70, r_71, r_72, r_73, r_74, r_75, r_76, r_77, Option.bind_some, leN, hL.2.2.1, if_pos (Nat.le_refl (nR n))]
  obtain ⟨b, e, h⟩ := key
  unfold f_X0_isViolatedWith
  rw [o_1, Option.bind_some]
  show bindR0 (l_X0_isViolatedWith_7 1 10 (bitT t) (HH m) FU (nI 0)) (fun _ => some 0) = _
  rw [e]
  unfold b01
  rcases h with ⟨rfl, h⟩ | ⟨rfl, h⟩
  · rw [if_pos h]
    rfl
  · rw [if_neg h]
    rfl
theorem c_ways {n : Nat} (hn : n38 n) {M : Nat → Int64} {f : Nat → Nat} {u : Nat} (hu : u ≤ 10) (hf : ∀ k, k < u → f k < nT n) (hi : ∀ j k, j < k → k < u → f j < f k) :
    ∀ d p dd (r : Nat → Int32) (m : Mem), p + d = u → d < dd → LC n m → RS 9 m r M → (∀ k, k < u → m.I 23 k = nI (f k)) → viol n r (nR n) = 0 → (∀ k, p ≤ k → k < u → r (3 + 4 * f k) = -100) →
    ∃ m1, f_X3_waysFrom dd (nI p) (nI u) 23 10 1 (HH m) = some (nI (Cn n f d p r), HH m1) ∧ RS 9 m1 r M ∧ Fr (cS 9) m m1 := by
  have hT := nT_le hn
  intro d
  induction d with
  | zero =>
    intro p dd r m hd hdd hL hs h23 hv hk
    obtain ⟨e, rfl⟩ : ∃ e, dd = e + 1 := ⟨dd - 1, by omega⟩
    refine ⟨m, ?_, hs, Fr_rf _ m⟩
    have hp : nI u ≤ nI p := by rw [nI_leI (by omega) (by omega)]; omega
    rw [f_X3_waysFrom, if_pos hp]
    show _ = some (nI (if viol n r (nR n) = 0 then 1 else 0), HH m)
    rw [if_pos hv]
    rfl
  | succ d ih =>
    intro p dd r m hd hdd hL hs h23 hv hk
    obtain ⟨e, rfl⟩ : ∃ e, dd = e + 1 := ⟨dd - 1, by omega⟩
    have hp : ¬ nI u ≤ nI p := fun q => by rw [nI_leI (by omega) (by omega)] at q; omega
    have hp10 : nI p < (10 : Int32) := by
      rw [Int32.lt_iff_toInt_lt, nI_toInt (by omega)]
      have : (10 : Int32).toInt = 10 := by decide
      omega
    have ht := hf p (by omega)
    have e3 : aI (HH m) 23 (nI p) = some (nI (f p)) := by rw [r_23 m (by omega), h23 p (by omega)]
    have one : ∀ (v : Int32) (fuel : Nat) (c : Nat) (r1 : Nat → Int32) (m1 : Mem), LC n m1 → RS 9 m1 r1 M → Fr (cS 9) m m1 → (∀ j, j ≠ 3 + 4 * f p → r1 j = r j) → ¬ (1 : Int32) < v → ∃ m2, l_X3_waysFrom_24 (nI p) (nI u) 23 10 1 (nI (f p)) (f_X3_waysFrom e) (fuel + 1) (nI c) v (HH m1) = l_X3_waysFrom_24 (nI p) (nI u) 23 10 1 (nI (f p)) (f_X3_waysFrom e) fuel (nI (c + Cn n f d (p + 1) (upd r (3 + 4 * f p) v))) (v + 2) (HH m2) ∧ LC n m2 ∧ RS 9 m2 (upd r (3 + 4 * f p) v) M ∧ Fr (cS 9) m m2 := by
      intro v fuel c r1 m1 hL1 hs1 hf1 hr1 hv1
      obtain ⟨r2, f2⟩ := RS_sg hs1 (t := f p) (by omega) v
      have hL2 := LC_9 hL1 f2
      have f02 := Fr_tr hf1 f2
      have r3 : RS 9 (m1.sI 10 (f p) v) (upd r (3 + 4 * f p) v) M := RS_cg r2 (fun j _ => by
        rw [upd_g, upd_g]
        by_cases cj : j = 3 + 4 * f p
        · rw [if_pos cj, if_pos cj]
        · rw [if_neg cj, if_neg cj, hr1 j cj]) (fun _ _ => rfl)
      have ew := c_vw hn hL2 r3 ht
      have hup := viol_up (n := n) (t := f p) (v := v) hv
      have hk2 : ∀ k, p + 1 ≤ k → k < u → upd r (3 + 4 * f p) v (3 + 4 * f k) = -100 := fun k h1 h2 => by
        rw [upd_g, if_neg (by have := hi p k (by omega) h2; omega)]
        exact hk k (by omega) h2
      by_cases z : vt n (upd r (3 + 4 * f p) v) (f p) (nR n) = 0
      · obtain ⟨m3, e4, r4, f4⟩ := ih (p + 1) e (upd r (3 + 4 * f p) v) (m1.sI 10 (f p) v) (by omega) (by omega) hL2 r3 (fun k hk => by rw [(f02.1 23 (by unfold cS; omega)).1]; exact h23 k hk) (hup.mpr z) hk2
        refine ⟨m3, ?_, LC_9 hL2 f4, r4, Fr_tr f02 f4⟩
        rw [l_X3_waysFrom_24, if_neg hv1, w_10 m1 (by omega), Option.bind_some, ew, Option.bind_some]
        unfold b01
        rw [if_pos z, if_pos rfl, add_1, e4]
        simp only [bind2, nI_add]
      · refine ⟨m1.sI 10 (f p) v, ?_, hL2, r3, f02⟩
        rw [l_X3_waysFrom_24, if_neg hv1, w_10 m1 (by omega), Option.bind_some, ew, Option.bind_some]
        unfold b01
        rw [if_neg z, if_neg (show ¬ (1 : Int32) = 0 by decide), Cn_0 n f d (p + 1) _ (fun h => z (hup.mp h)) (fun k h1 h2 => hk2 k h1 (by omega)) (fun j k h1 h2 h3 => hi j k h2 (by omega)), Nat.add_zero]
        rfl
    obtain ⟨m1, e1, L1, r1, f1⟩ := one (-1) ((3999997 + 1) + 1) 0 r m hL hs (Fr_rf _ m) (fun _ _ => rfl) (by decide)
    obtain ⟨m2, e2, L2, r2, f2⟩ := one 1 (3999997 + 1) (0 + Cn n f d (p + 1) (upd r (3 + 4 * f p) (-1))) (upd r (3 + 4 * f p) (-1)) m1 L1 r1 f1 (fun j hj => by rw [upd_g, if_neg hj]) (by decide)
    obtain ⟨r5, f5⟩ := RS_sg r2 (t := f p) (by omega) (-100)
    refine ⟨m2.sI 10 (f p) (-100), ?_, RS_cg r5 (fun j _ => ?_) (fun _ _ => rfl), Fr_tr f2 f5⟩
    · rw [f_X3_waysFrom, if_neg hp, if_pos hp10, e3, Option.bind_some]
      have ee : l_X3_waysFrom_24 (nI p) (nI u) 23 10 1 (nI (f p)) (f_X3_waysFrom e) FU 0 (-1) (HH m) = some (nI (Cn n f (d + 1) p r), HH m2) := by
        refine Eq.trans e1 (Eq.trans ?_ (Eq.trans e2 ?_))
        · rfl
        · rw [l_X3_waysFrom_24, if_pos (show (1 : Int32) < 1 + 2 by decide), Nat.zero_add]
          rfl
      rw [ee]
      simp only [bind2]
      rw [w_10 m2 (by omega), Option.bind_some]
    · rw [upd_g, upd_g]
      by_cases cj : j = 3 + 4 * f p
      · rw [if_pos cj, cj]
        exact hk p (Nat.le_refl p) (by omega)
      · rw [if_neg cj, if_neg cj]
