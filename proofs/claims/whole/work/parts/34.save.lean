/-! the class saves its state -/
def vS (x : Nat) : Prop := x = 29 ∨ x = 37 ∨ x = 45 ∨ x = 53
def vperm (V : Nat → Nat) : Prop := (∀ i, i < 4 → vS (V i)) ∧ ∀ i j, i < 4 → j < 4 → V i = V j → i = j
theorem rQ (m : Mem) {i : Nat} (hi : i < 4) : aQ (HH m) 21 (nI i) = some (m.V i) := by
  show (if 2 = 2 ∧ ¬ (nI i < 0 ∨ 4 ≤ (nI i).toNatClampNeg) then (if (nI i).toNatClampNeg < 4 then some (m.V (nI i).toNatClampNeg) else none) else none) = _
  rw [if_pos ⟨rfl, nI_in hi (by decide)⟩, nI_clamp (by omega), if_pos hi]
theorem rc_vS (m : Mem) {x : Nat} (hx : vS x) : rc 2 (HH m) x = some () := by
  rcases hx with rfl | rfl | rfl | rfl <;> rfl
theorem wQ_21 (m : Mem) {i x : Nat} (hi : i < 4) (hx : vS x) : wQ (HH m) 21 (nI i) x = some (HH (m.sV i x)) := by
  show (if 2 = 2 ∧ ¬ (nI i < 0 ∨ 4 ≤ (nI i).toNatClampNeg) ∧ rc 2 (HH m) x = some () then some ((HH m).set 21 (.inl (2, (4, .inr (.inr (.inr (.inr (va_up (fun i => if i < 4 then some (m.V i) else none) (nI i).toNatClampNeg (some x))))))))) else none) = _
  rw [if_pos ⟨rfl, nI_in hi (by decide), rc_vS m hx⟩, nI_clamp (by omega)]
  have e : va_up (fun i => if i < 4 then some (m.V i) else none) i (some x) = fun j => if j < 4 then some ((m.sV i x).V j) else none := by
    funext j
    show (if j = i then some x else if j < 4 then some (m.V j) else none) = if j < 4 then some (if j = i then x else m.V j) else none
    by_cases c : j = i
    · rw [if_pos c, if_pos c, if_pos (by omega)]
    · rw [if_neg c, if_neg c]
  rw [e]
  rfl
theorem sV_V (m : Mem) (i x j : Nat) : (m.sV i x).V j = if j = i then x else m.V j := rfl
theorem cpy_v {m : Mem} {s : Nat → Int32} {M : Nat → Int64} (hs : RS 9 m s M) (h1 : s 1 = 0 ∨ s 1 = 1) {b : Nat} (hb : vS b) : ∃ m1, f_X2_copyFrom b 9 (HH m) = some (HH m1) ∧ RS b m1 s M ∧ Fr (cS b) m m1 := by
  rcases hb with rfl | rfl | rfl | rfl
  · exact cpy_9_29 hs h1
  · exact cpy_9_37 hs h1
  · exact cpy_9_45 hs h1
  · exact cpy_9_53 hs h1
theorem cpy_w {m : Mem} {s : Nat → Int32} {M : Nat → Int64} {b : Nat} (hs : RS b m s M) (h1 : s 1 = 0 ∨ s 1 = 1) (hb : vS b) : ∃ m1, f_X2_copyFrom 9 b (HH m) = some (HH m1) ∧ RS 9 m1 s M ∧ Fr (cS 9) m m1 := by
  rcases hb with rfl | rfl | rfl | rfl
  · exact cpy_29_9 hs h1
  · exact cpy_37_9 hs h1
  · exact cpy_45_9 hs h1
  · exact cpy_53_9 hs h1
theorem RS_IJ {b : Nat} {m m1 : Mem} {s : Nat → Int32} {M : Nat → Int64} (h : RS b m s M) (eI : m1.I = m.I) (eJ : m1.J = m.J) : RS b m1 s M := by
  unfold RS
  rw [eI, eJ]
  exact h
/-- the last part of saving: the state is copied into the place q -/
theorem c_save0 {m : Mem} {s : Nat → Int32} {M : Nat → Int64} (hs : RS 9 m s M) (h1 : s 1 = 0 ∨ s 1 = 1) {q : Nat} (hq : q < 4) (h4 : m.I 0 4 = nI q) (hv : vperm m.V) : ∃ m1, ((fR 3 3 (HH m) 0).bind fun v7 => (fI 3 4 (HH m) 0).bind fun v8 => (aQ (HH m) v7 v8).bind fun v9 => (fR 3 1 (HH m) 0).bind fun v10 => (f_X2_copyFrom v9 v10 (HH m)).bind fun h12 => (fI 3 4 h12 0).bind fun v13 => (sF 3 4 (.int (v13 + (1 : Int32))) h12 0).bind fun h14 => some (h14)) = some (HH m1) ∧ m1.I 0 4 = nI (q + 1) ∧ m1.V = m.V ∧ RS (m.V q) m1 s M ∧ ∀ a, a ≠ 0 → ¬ cS (m.V q) a → m1.I a = m.I a ∧ m1.J a = m.J a := by
  have hb := hv.1 q hq
  obtain ⟨m1, e1, r1, f1⟩ := cpy_v hs h1 hb
  have n0 : ¬ cS (m.V q) 0 := by
    unfold cS
    rcases hb with e | e | e | e <;> rw [e] <;> omega
  have e4 : m1.I 0 4 = nI q := by rw [(f1.1 0 n0).1, h4]
  have f2 : Fr (cC 0) m1 (m1.sI 0 4 (nI (q + 1))) := Fr_sI (Fr_rf _ m1) rfl
  refine ⟨m1.sI 0 4 (nI (q + 1)), ?_, by rw [sI_at, if_pos rfl], f1.2, RS_fr r1 f2 (fun a ha => ?_), fun a ha hc => ⟨?_, ?_⟩⟩
  · rw [g_0_3, Option.bind_some, g_0_4, Option.bind_some, h4, rQ m hq, Option.bind_some, g_0_1, Option.bind_some, e1, Option.bind_some, g_0_4, Option.bind_some, e4, add_1, p_0_4, Option.bind_some]
  · unfold cC
    unfold cS at ha
    rcases hb with e | e | e | e <;> rw [e] at ha <;> omega
  · rw [(f2.1 a ha).1, (f1.1 a hc).1]
  · rw [(f2.1 a ha).2, (f1.1 a hc).2]
/-- the places when the oldest is given up -/
def rotV (V : Nat → Nat) (i : Nat) : Nat := if i = 0 then V 1 else if i = 1 then V 2 else if i = 2 then V 3 else if i = 3 then V 0 else V i
theorem rotV_p {V : Nat → Nat} (h : vperm V) : vperm (rotV V) := by
  refine ⟨fun i hi => ?_, fun i j hi hj e => ?_⟩
  · have : i = 0 ∨ i = 1 ∨ i = 2 ∨ i = 3 := by omega
    rcases this with rfl | rfl | rfl | rfl
    · exact h.1 1 (by omega)
    · exact h.1 2 (by omega)
    · exact h.1 3 (by omega)
    · exact h.1 0 (by omega)
  · have k : ∀ i, i < 4 → rotV V i = V ((i + 1) % 4) := by
      intro i hi
      have : i = 0 ∨ i = 1 ∨ i = 2 ∨ i = 3 := by omega
      rcases this with rfl | rfl | rfl | rfl <;> rfl
    rw [k i hi, k j hj] at e
    have := h.2 _ _ (by omega) (by omega) e
    omega
theorem c_rot (m : Mem) (hv : vperm m.V) : l_X3_save_17 0 FU (nI 1) (HH m) = some (HH (((m.sV 0 (m.V 1)).sV 1 (m.V 2)).sV 2 (m.V 3))) := by
  have one : ∀ (m : Mem) fuel k, vS (m.V (k + 1)) → k < 3 → l_X3_save_17 0 (fuel + 1) (nI (k + 1)) (HH m) = l_X3_save_17 0 fuel (nI (k + 2)) (HH (m.sV k (m.V (k + 1)))) := by
    intro m fuel k hx hk
    have c4 : ¬ (4 : Int32) ≤ nI (k + 1) := fun q => absurd ((nI_leI (a := 4) (by decide) (by omega)).mp q) (by omega)
    have e1 : nI (k + 1) - (1 : Int32) = nI k := pk_sub (a := k + 1) (b := 1) (by omega)
    rw [l_X3_save_17, if_neg c4, g_0_3, Option.bind_some, Option.bind_some, rQ m (by omega), Option.bind_some, e1, wQ_21 m (by omega) hx, Option.bind_some, add_1]
  have a := one m (3999996 + 1 + 1 + 1) 0 (hv.1 1 (by omega)) (by omega)
  have b := one (m.sV 0 (m.V 1)) (3999996 + 1 + 1) 1 (hv.1 2 (by omega)) (by omega)
  have c := one ((m.sV 0 (m.V 1)).sV 1 (m.V 2)) (3999996 + 1) 2 (hv.1 3 (by omega)) (by omega)
  have d : l_X3_save_17 0 (3999996 + 1) (nI 4) (HH (((m.sV 0 (m.V 1)).sV 1 (m.V 2)).sV 2 (m.V 3))) = some (HH (((m.sV 0 (m.V 1)).sV 1 (m.V 2)).sV 2 (m.V 3))) := by
    rw [l_X3_save_17, if_pos (show (4 : Int32) ≤ nI 4 by decide)]
  exact a.trans (b.trans (c.trans d))
theorem c_save {m : Mem} {s : Nat → Int32} {M : Nat → Int64} (hs : RS 9 m s M) (h1 : s 1 = 0 ∨ s 1 = 1) {q : Nat} (hq : q ≤ 4) (h4 : m.I 0 4 = nI q) (hv : vperm m.V) : ∃ m1, f_X3_save 0 (HH m) = some (HH m1) ∧ m1.I 0 4 = nI (up4 q) ∧ vperm m1.V ∧ RS (m1.V (up4 q - 1)) m1 s M ∧ (∀ i, i + 1 < up4 q → m1.V i = m.V (if q = 4 then i + 1 else i)) ∧ ∀ a, a ≠ 0 → ¬ cS (m1.V (up4 q - 1)) a → m1.I a = m.I a ∧ m1.J a = m.J a := by
  by_cases c : q = 4
  · subst c
    obtain ⟨m0, d0⟩ : ∃ m0, m0 = ((((m.sV 0 (m.V 1)).sV 1 (m.V 2)).sV 2 (m.V 3)).sV 3 (m.V 0)) := ⟨_, rfl⟩
    have v0 : m0.V = rotV m.V := by
      rw [d0]
      funext j
      show (if j = 3 then _ else if j = 2 then _ else if j = 1 then _ else if j = 0 then _ else _) = _
      unfold rotV
      (repeat' split) <;> first | rfl | omega
    have i0 : m0.I = m.I := by rw [d0]; rfl
    have j0 : m0.J = m.J := by rw [d0]; rfl
    obtain ⟨m1, e1, a1, b1, r1, f1⟩ := c_save0 (m := m0.sI 0 4 (nI 3)) (RS_fr (RS_IJ hs i0 j0) (Fr_sI (Fr_rf (cC 0) m0) rfl) (fun a ha => by unfold cC; unfold cS at ha; omega)) h1 (q := 3) (by omega) (by rw [sI_at, if_pos rfl]) (by
      show vperm m0.V
      rw [v0]
      exact rotV_p hv)
    have b1 : m1.V = m0.V := b1
    refine ⟨m1, ?_, a1, ?_, ?_, ?_, ?_⟩
    · unfold f_X3_save
      rw [o_0, Option.bind_some, g_0_4, Option.bind_some, h4, if_neg (show ¬ nI 4 < (4 : Int32) by decide), g_0_3, Option.bind_some, show aQ (HH m) 21 0 = some (m.V 0) from rQ m (i := 0) (by omega), Option.bind_some, show l_X3_save_17 0 FU 1 (HH m) = _ from c_rot m hv, Option.bind_some, g_0_3, Option.bind_some, show wQ (HH _) 21 3 (m.V 0) = some (HH m0) from (wQ_21 _ (i := 3) (by omega) (hv.1 0 (by omega))).trans (by rw [d0]), Option.bind_some, g_0_4, Option.bind_some, show m0.I 0 4 = nI 4 by rw [i0, h4], show (nI 4 - 1 : Int32) = nI 3 from rfl, p_0_4, Option.bind_some, Option.bind_some]
      exact e1
    · rw [b1, v0]
      exact rotV_p hv
    · rw [b1]
      exact r1
    · intro i hi
      have hi : i + 1 < 4 := hi
      rw [b1, v0, if_pos (show (4 : Nat) = 4 from rfl)]
      unfold rotV
      (repeat' split) <;> first | omega | (subst_vars; rfl)
    · intro a ha hc
      rw [b1] at hc
      have := f1 a ha hc
      rw [this.1, this.2, ← i0, ← j0]
      exact ⟨by rw [sI_I, if_neg ha], rfl⟩
  · obtain ⟨m1, e1, a1, b1, r1, f1⟩ := c_save0 hs h1 (q := q) (by omega) h4 hv
    have eu : up4 q = q + 1 := if_neg c
    have ed : up4 q - 1 = q := by omega
    refine ⟨m1, ?_, by rw [eu]; exact a1, by rw [b1]; exact hv, by rw [ed, b1]; exact r1, fun i hi => by rw [b1, if_neg c], fun a ha hc => f1 a ha (by rw [ed, b1] at hc; exact hc)⟩
    have l4 : m.I 0 4 < (4 : Int32) := by
      rw [h4, Int32.lt_iff_toInt_lt, nI_toInt (by omega)]
      have : (4 : Int32).toInt = 4 := by decide
      omega
    unfold f_X3_save
    rw [o_0, Option.bind_some, g_0_4, Option.bind_some, if_pos l4, Option.bind_some]
    exact e1
