/-! a state copied from another -/
theorem Fr_rI {c : Nat → Prop} {m m1 : Mem} (h : Fr c m m1) {a : Nat} {f : Nat → Int32} (ha : c a) : Fr c m (m1.rI a f) := ⟨fun b hb => ⟨by
  rw [rI_n _ _ (fun e => hb (by rw [e]; exact ha))]
  exact (h.1 b hb).1, (h.1 b hb).2⟩, h.2⟩
theorem Fr_rJ {c : Nat → Prop} {m m1 : Mem} (h : Fr c m m1) {a : Nat} {f : Nat → Int64} (ha : c a) : Fr c m (m1.rJ a f) := ⟨fun b hb => ⟨(h.1 b hb).1, by
  show (if b = a then f else m1.J b) = _
  rw [if_neg (fun e => hb (by rw [e]; exact ha))]
  exact (h.1 b hb).2⟩, h.2⟩
theorem cpy_at {α : Type} (f g : Nat → α) {c t : Nat} (h : t < c) : va_cpy f g 0 0 c t = f t := by
  rw [pk_cpy_in (by omega) (by omega), show 0 + (t - 0) = t by omega]
theorem rJ_J (m : Mem) (a : Nat) (f : Nat → Int64) : (m.rJ a f).J a = f := if_pos rfl
theorem cx_9_29_0 (m : Mem) : ∃ m1, cpI (HH m) 10 0 30 0 56 = some (HH m1) ∧ (∀ t, t < 56 → m1.I 30 t = m.I 10 t) ∧ Fr (cC 30) m m1 := ⟨_, cp_9_29_0 m, fun t ht => by rw [rI_I, cpy_at _ _ ht], Fr_rI (Fr_rf _ m) rfl⟩
theorem cx_9_29_1 (m : Mem) : ∃ m1, cpI (HH m) 11 0 31 0 56 = some (HH m1) ∧ (∀ t, t < 56 → m1.I 31 t = m.I 11 t) ∧ Fr (cC 31) m m1 := ⟨_, cp_9_29_1 m, fun t ht => by rw [rI_I, cpy_at _ _ ht], Fr_rI (Fr_rf _ m) rfl⟩
theorem cx_9_29_2 (m : Mem) : ∃ m1, cpI (HH m) 12 0 32 0 56 = some (HH m1) ∧ (∀ t, t < 56 → m1.I 32 t = m.I 12 t) ∧ Fr (cC 32) m m1 := ⟨_, cp_9_29_2 m, fun t ht => by rw [rI_I, cpy_at _ _ ht], Fr_rI (Fr_rf _ m) rfl⟩
theorem cx_9_29_3 (m : Mem) : ∃ m1, cpI (HH m) 13 0 33 0 56 = some (HH m1) ∧ (∀ t, t < 56 → m1.I 33 t = m.I 13 t) ∧ Fr (cC 33) m m1 := ⟨_, cp_9_29_3 m, fun t ht => by rw [rI_I, cpy_at _ _ ht], Fr_rI (Fr_rf _ m) rfl⟩
theorem cx_9_29_4 (m : Mem) : ∃ m1, cpJ (HH m) 14 0 34 0 56 = some (HH m1) ∧ (∀ t, t < 56 → m1.J 34 t = m.J 14 t) ∧ Fr (cC 34) m m1 := ⟨_, cp_9_29_4 m, fun t ht => by rw [rJ_J, cpy_at _ _ ht], Fr_rJ (Fr_rf _ m) rfl⟩
theorem cx_9_29_5 (m : Mem) : ∃ m1, cpI (HH m) 15 0 35 0 8 = some (HH m1) ∧ (∀ t, t < 8 → m1.I 35 t = m.I 15 t) ∧ Fr (cC 35) m m1 := ⟨_, cp_9_29_5 m, fun t ht => by rw [rI_I, cpy_at _ _ ht], Fr_rI (Fr_rf _ m) rfl⟩
theorem cx_9_29_6 (m : Mem) : ∃ m1, cpI (HH m) 16 0 36 0 8 = some (HH m1) ∧ (∀ t, t < 8 → m1.I 36 t = m.I 16 t) ∧ Fr (cC 36) m m1 := ⟨_, cp_9_29_6 m, fun t ht => by rw [rI_I, cpy_at _ _ ht], Fr_rI (Fr_rf _ m) rfl⟩
theorem cpy_9_29 {m : Mem} {s : Nat → Int32} {M : Nat → Int64} (hs : RS 9 m s M) (h1 : s 1 = 0 ∨ s 1 = 1) : ∃ m1, f_X2_copyFrom 29 9 (HH m) = some (HH m1) ∧ RS 29 m1 s M ∧ Fr (cS 29) m m1 := by
  have eg : gB (m.I 9 1) = some () := if_pos (by rw [hs.2.1]; exact h1)
  obtain ⟨n0, d0⟩ : ∃ n0, n0 = ((m.sI 29 0 (m.I 9 0)).sI 29 1 (m.I 9 1)).sI 29 2 (m.I 9 2) := ⟨_, rfl⟩
  have f0 : Fr (cC 29) m n0 := by rw [d0]; exact Fr_sI (c := cC 29) (Fr_sI (c := cC 29) (Fr_sI (c := cC 29) (Fr_rf (cC 29) m) rfl) rfl) rfl
  obtain ⟨n1, e1, k1, f1⟩ := cx_9_29_0 n0
  obtain ⟨n2, e2, k2, f2⟩ := cx_9_29_1 n1
  obtain ⟨n3, e3, k3, f3⟩ := cx_9_29_2 n2
  obtain ⟨n4, e4, k4, f4⟩ := cx_9_29_3 n3
  obtain ⟨n5, e5, k5, f5⟩ := cx_9_29_4 n4
  obtain ⟨n6, e6, k6, f6⟩ := cx_9_29_5 n5
  obtain ⟨n7, e7, k7, f7⟩ := cx_9_29_6 n6
  refine ⟨n7, ?_, ?_, ?_⟩
  · unfold f_X2_copyFrom
    rw [o_29, Option.bind_some, g_9_0, Option.bind_some, p_29_0, Option.bind_some, g_9_1, Option.bind_some, show (m.sI 29 0 (m.I 9 0)).I 9 1 = m.I 9 1 from sI_of _ _ _ _ (by decide), eg, Option.bind_some, p_29_1, Option.bind_some, g_9_2, Option.bind_some, show ((m.sI 29 0 (m.I 9 0)).sI 29 1 (m.I 9 1)).I 9 2 = m.I 9 2 from (sI_of _ _ _ _ (by decide)).trans (sI_of _ _ _ _ (by decide)), p_29_2, Option.bind_some, ← d0]
    rw [g_9_3, Option.bind_some, g_29_3, Option.bind_some, e1, Option.bind_some, g_9_4, Option.bind_some, g_29_4, Option.bind_some, e2, Option.bind_some, g_9_5, Option.bind_some, g_29_5, Option.bind_some, e3, Option.bind_some, g_9_6, Option.bind_some, g_29_6, Option.bind_some, e4, Option.bind_some, g_9_7, Option.bind_some, g_29_7, Option.bind_some, e5, Option.bind_some, g_9_8, Option.bind_some, g_29_8, Option.bind_some, e6, Option.bind_some, g_9_9, Option.bind_some, g_29_9, Option.bind_some, e7, Option.bind_some]
  · refine ⟨?_, ?_, ?_, fun t ht => ⟨?_, ?_, ?_, ?_, ?_⟩, fun p hp => ⟨?_, ?_⟩⟩
    · rw [(f7.1 29 (by unfold cC; decide)).1, (f6.1 29 (by unfold cC; decide)).1, (f5.1 29 (by unfold cC; decide)).1, (f4.1 29 (by unfold cC; decide)).1, (f3.1 29 (by unfold cC; decide)).1, (f2.1 29 (by unfold cC; decide)).1, (f1.1 29 (by unfold cC; decide)).1, d0]
      exact hs.1
    · rw [(f7.1 29 (by unfold cC; decide)).1, (f6.1 29 (by unfold cC; decide)).1, (f5.1 29 (by unfold cC; decide)).1, (f4.1 29 (by unfold cC; decide)).1, (f3.1 29 (by unfold cC; decide)).1, (f2.1 29 (by unfold cC; decide)).1, (f1.1 29 (by unfold cC; decide)).1, d0]
      exact hs.2.1
    · rw [(f7.1 29 (by unfold cC; decide)).1, (f6.1 29 (by unfold cC; decide)).1, (f5.1 29 (by unfold cC; decide)).1, (f4.1 29 (by unfold cC; decide)).1, (f3.1 29 (by unfold cC; decide)).1, (f2.1 29 (by unfold cC; decide)).1, (f1.1 29 (by unfold cC; decide)).1, d0]
      exact hs.2.2.1
    · show n7.I 30 t = _
      rw [(f7.1 30 (by unfold cC; decide)).1, (f6.1 30 (by unfold cC; decide)).1, (f5.1 30 (by unfold cC; decide)).1, (f4.1 30 (by unfold cC; decide)).1, (f3.1 30 (by unfold cC; decide)).1, (f2.1 30 (by unfold cC; decide)).1, k1 t ht, (f0.1 10 (by unfold cC; decide)).1]
      exact (hs.2.2.2.1 t ht).1
    · show n7.I 31 t = _
      rw [(f7.1 31 (by unfold cC; decide)).1, (f6.1 31 (by unfold cC; decide)).1, (f5.1 31 (by unfold cC; decide)).1, (f4.1 31 (by unfold cC; decide)).1, (f3.1 31 (by unfold cC; decide)).1, k2 t ht, (f1.1 11 (by unfold cC; decide)).1, (f0.1 11 (by unfold cC; decide)).1]
      exact (hs.2.2.2.1 t ht).2.1
    · show n7.I 32 t = _
      rw [(f7.1 32 (by unfold cC; decide)).1, (f6.1 32 (by unfold cC; decide)).1, (f5.1 32 (by unfold cC; decide)).1, (f4.1 32 (by unfold cC; decide)).1, k3 t ht, (f2.1 12 (by unfold cC; decide)).1, (f1.1 12 (by unfold cC; decide)).1, (f0.1 12 (by unfold cC; decide)).1]
      exact (hs.2.2.2.1 t ht).2.2.1
    · show n7.I 33 t = _
      rw [(f7.1 33 (by unfold cC; decide)).1, (f6.1 33 (by unfold cC; decide)).1, (f5.1 33 (by unfold cC; decide)).1, k4 t ht, (f3.1 13 (by unfold cC; decide)).1, (f2.1 13 (by unfold cC; decide)).1, (f1.1 13 (by unfold cC; decide)).1, (f0.1 13 (by unfold cC; decide)).1]
      exact (hs.2.2.2.1 t ht).2.2.2.1
    · show n7.J 34 t = _
      rw [(f7.1 34 (by unfold cC; decide)).2, (f6.1 34 (by unfold cC; decide)).2, k5 t ht, (f4.1 14 (by unfold cC; decide)).2, (f3.1 14 (by unfold cC; decide)).2, (f2.1 14 (by unfold cC; decide)).2, (f1.1 14 (by unfold cC; decide)).2, (f0.1 14 (by unfold cC; decide)).2]
      exact (hs.2.2.2.1 t ht).2.2.2.2
    · show n7.I 35 p = _
      rw [(f7.1 35 (by unfold cC; decide)).1, k6 p hp, (f5.1 15 (by unfold cC; decide)).1, (f4.1 15 (by unfold cC; decide)).1, (f3.1 15 (by unfold cC; decide)).1, (f2.1 15 (by unfold cC; decide)).1, (f1.1 15 (by unfold cC; decide)).1, (f0.1 15 (by unfold cC; decide)).1]
      exact (hs.2.2.2.2 p hp).1
    · show n7.I 36 p = _
      rw [k7 p hp, (f6.1 16 (by unfold cC; decide)).1, (f5.1 16 (by unfold cC; decide)).1, (f4.1 16 (by unfold cC; decide)).1, (f3.1 16 (by unfold cC; decide)).1, (f2.1 16 (by unfold cC; decide)).1, (f1.1 16 (by unfold cC; decide)).1, (f0.1 16 (by unfold cC; decide)).1]
      exact (hs.2.2.2.2 p hp).2
  · exact (Fr_tr (Fr_tr (Fr_tr (Fr_tr (Fr_tr (Fr_tr (Fr_tr (Fr_w (d := cS 29) f0 (fun a h => by unfold cC at h; unfold cS; omega)) (Fr_w (d := cS 29) f1 (fun a h => by unfold cC at h; unfold cS; omega))) (Fr_w (d := cS 29) f2 (fun a h => by unfold cC at h; unfold cS; omega))) (Fr_w (d := cS 29) f3 (fun a h => by unfold cC at h; unfold cS; omega))) (Fr_w (d := cS 29) f4 (fun a h => by unfold cC at h; unfold cS; omega))) (Fr_w (d := cS 29) f5 (fun a h => by unfold cC at h; unfold cS; omega))) (Fr_w (d := cS 29) f6 (fun a h => by unfold cC at h; unfold cS; omega))) (Fr_w (d := cS 29) f7 (fun a h => by unfold cC at h; unfold cS; omega)))
theorem cx_9_37_0 (m : Mem) : ∃ m1, cpI (HH m) 10 0 38 0 56 = some (HH m1) ∧ (∀ t, t < 56 → m1.I 38 t = m.I 10 t) ∧ Fr (cC 38) m m1 := ⟨_, cp_9_37_0 m, fun t ht => by rw [rI_I, cpy_at _ _ ht], Fr_rI (Fr_rf _ m) rfl⟩
theorem cx_9_37_1 (m : Mem) : ∃ m1, cpI (HH m) 11 0 39 0 56 = some (HH m1) ∧ (∀ t, t < 56 → m1.I 39 t = m.I 11 t) ∧ Fr (cC 39) m m1 := ⟨_, cp_9_37_1 m, fun t ht => by rw [rI_I, cpy_at _ _ ht], Fr_rI (Fr_rf _ m) rfl⟩
theorem cx_9_37_2 (m : Mem) : ∃ m1, cpI (HH m) 12 0 40 0 56 = some (HH m1) ∧ (∀ t, t < 56 → m1.I 40 t = m.I 12 t) ∧ Fr (cC 40) m m1 := ⟨_, cp_9_37_2 m, fun t ht => by rw [rI_I, cpy_at _ _ ht], Fr_rI (Fr_rf _ m) rfl⟩
theorem cx_9_37_3 (m : Mem) : ∃ m1, cpI (HH m) 13 0 41 0 56 = some (HH m1) ∧ (∀ t, t < 56 → m1.I 41 t = m.I 13 t) ∧ Fr (cC 41) m m1 := ⟨_, cp_9_37_3 m, fun t ht => by rw [rI_I, cpy_at _ _ ht], Fr_rI (Fr_rf _ m) rfl⟩
theorem cx_9_37_4 (m : Mem) : ∃ m1, cpJ (HH m) 14 0 42 0 56 = some (HH m1) ∧ (∀ t, t < 56 → m1.J 42 t = m.J 14 t) ∧ Fr (cC 42) m m1 := ⟨_, cp_9_37_4 m, fun t ht => by rw [rJ_J, cpy_at _ _ ht], Fr_rJ (Fr_rf _ m) rfl⟩
theorem cx_9_37_5 (m : Mem) : ∃ m1, cpI (HH m) 15 0 43 0 8 = some (HH m1) ∧ (∀ t, t < 8 → m1.I 43 t = m.I 15 t) ∧ Fr (cC 43) m m1 := ⟨_, cp_9_37_5 m, fun t ht => by rw [rI_I, cpy_at _ _ ht], Fr_rI (Fr_rf _ m) rfl⟩
theorem cx_9_37_6 (m : Mem) : ∃ m1, cpI (HH m) 16 0 44 0 8 = some (HH m1) ∧ (∀ t, t < 8 → m1.I 44 t = m.I 16 t) ∧ Fr (cC 44) m m1 := ⟨_, cp_9_37_6 m, fun t ht => by rw [rI_I, cpy_at _ _ ht], Fr_rI (Fr_rf _ m) rfl⟩
theorem cpy_9_37 {m : Mem} {s : Nat → Int32} {M : Nat → Int64} (hs : RS 9 m s M) (h1 : s 1 = 0 ∨ s 1 = 1) : ∃ m1, f_X2_copyFrom 37 9 (HH m) = some (HH m1) ∧ RS 37 m1 s M ∧ Fr (cS 37) m m1 := by
  have eg : gB (m.I 9 1) = some () := if_pos (by rw [hs.2.1]; exact h1)
  obtain ⟨n0, d0⟩ : ∃ n0, n0 = ((m.sI 37 0 (m.I 9 0)).sI 37 1 (m.I 9 1)).sI 37 2 (m.I 9 2) := ⟨_, rfl⟩
  have f0 : Fr (cC 37) m n0 := by rw [d0]; exact Fr_sI (c := cC 37) (Fr_sI (c := cC 37) (Fr_sI (c := cC 37) (Fr_rf (cC 37) m) rfl) rfl) rfl
  obtain ⟨n1, e1, k1, f1⟩ := cx_9_37_0 n0
  obtain ⟨n2, e2, k2, f2⟩ := cx_9_37_1 n1
  obtain ⟨n3, e3, k3, f3⟩ := cx_9_37_2 n2
  obtain ⟨n4, e4, k4, f4⟩ := cx_9_37_3 n3
  obtain ⟨n5, e5, k5, f5⟩ := cx_9_37_4 n4
  obtain ⟨n6, e6, k6, f6⟩ := cx_9_37_5 n5
  obtain ⟨n7, e7, k7, f7⟩ := cx_9_37_6 n6
  refine ⟨n7, ?_, ?_, ?_⟩
  · unfold f_X2_copyFrom
    rw [o_37, Option.bind_some, g_9_0, Option.bind_some, p_37_0, Option.bind_some, g_9_1, Option.bind_some, show (m.sI 37 0 (m.I 9 0)).I 9 1 = m.I 9 1 from sI_of _ _ _ _ (by decide), eg, Option.bind_some, p_37_1, Option.bind_some, g_9_2, Option.bind_some, show ((m.sI 37 0 (m.I 9 0)).sI 37 1 (m.I 9 1)).I 9 2 = m.I 9 2 from (sI_of _ _ _ _ (by decide)).trans (sI_of _ _ _ _ (by decide)), p_37_2, Option.bind_some, ← d0]
    rw [g_9_3, Option.bind_some, g_37_3, Option.bind_some, e1, Option.bind_some, g_9_4, Option.bind_some, g_37_4, Option.bind_some, e2, Option.bind_some, g_9_5, Option.bind_some, g_37_5, Option.bind_some, e3, Option.bind_some, g_9_6, Option.bind_some, g_37_6, Option.bind_some, e4, Option.bind_some, g_9_7, Option.bind_some, g_37_7, Option.bind_some, e5, Option.bind_some, g_9_8, Option.bind_some, g_37_8, Option.bind_some, e6, Option.bind_some, g_9_9, Option.bind_some, g_37_9, Option.bind_some, e7, Option.bind_some]
  · refine ⟨?_, ?_, ?_, fun t ht => ⟨?_, ?_, ?_, ?_, ?_⟩, fun p hp => ⟨?_, ?_⟩⟩
    · rw [(f7.1 37 (by unfold cC; decide)).1, (f6.1 37 (by unfold cC; decide)).1, (f5.1 37 (by unfold cC; decide)).1, (f4.1 37 (by unfold cC; decide)).1, (f3.1 37 (by unfold cC; decide)).1, (f2.1 37 (by unfold cC; decide)).1, (f1.1 37 (by unfold cC; decide)).1, d0]
      exact hs.1
    · rw [(f7.1 37 (by unfold cC; decide)).1, (f6.1 37 (by unfold cC; decide)).1, (f5.1 37 (by unfold cC; decide)).1, (f4.1 37 (by unfold cC; decide)).1, (f3.1 37 (by unfold cC; decide)).1, (f2.1 37 (by unfold cC; decide)).1, (f1.1 37 (by unfold cC; decide)).1, d0]
      exact hs.2.1
    · rw [(f7.1 37 (by unfold cC; decide)).1, (f6.1 37 (by unfold cC; decide)).1, (f5.1 37 (by unfold cC; decide)).1, (f4.1 37 (by unfold cC; decide)).1, (f3.1 37 (by unfold cC; decide)).1, (f2.1 37 (by unfold cC; decide)).1, (f1.1 37 (by unfold cC; decide)).1, d0]
      exact hs.2.2.1
    · show n7.I 38 t = _
      rw [(f7.1 38 (by unfold cC; decide)).1, (f6.1 38 (by unfold cC; decide)).1, (f5.1 38 (by unfold cC; decide)).1, (f4.1 38 (by unfold cC; decide)).1, (f3.1 38 (by unfold cC; decide)).1, (f2.1 38 (by unfold cC; decide)).1, k1 t ht, (f0.1 10 (by unfold cC; decide)).1]
      exact (hs.2.2.2.1 t ht).1
    · show n7.I 39 t = _
      rw [(f7.1 39 (by unfold cC; decide)).1, (f6.1 39 (by unfold cC; decide)).1, (f5.1 39 (by unfold cC; decide)).1, (f4.1 39 (by unfold cC; decide)).1, (f3.1 39 (by unfold cC; decide)).1, k2 t ht, (f1.1 11 (by unfold cC; decide)).1, (f0.1 11 (by unfold cC; decide)).1]
      exact (hs.2.2.2.1 t ht).2.1
    · show n7.I 40 t = _
      rw [(f7.1 40 (by unfold cC; decide)).1, (f6.1 40 (by unfold cC; decide)).1, (f5.1 40 (by unfold cC; decide)).1, (f4.1 40 (by unfold cC; decide)).1, k3 t ht, (f2.1 12 (by unfold cC; decide)).1, (f1.1 12 (by unfold cC; decide)).1, (f0.1 12 (by unfold cC; decide)).1]
      exact (hs.2.2.2.1 t ht).2.2.1
    · show n7.I 41 t = _
      rw [(f7.1 41 (by unfold cC; decide)).1, (f6.1 41 (by unfold cC; decide)).1, (f5.1 41 (by unfold cC; decide)).1, k4 t ht, (f3.1 13 (by unfold cC; decide)).1, (f2.1 13 (by unfold cC; decide)).1, (f1.1 13 (by unfold cC; decide)).1, (f0.1 13 (by unfold cC; decide)).1]
      exact (hs.2.2.2.1 t ht).2.2.2.1
    · show n7.J 42 t = _
      rw [(f7.1 42 (by unfold cC; decide)).2, (f6.1 42 (by unfold cC; decide)).2, k5 t ht, (f4.1 14 (by unfold cC; decide)).2, (f3.1 14 (by unfold cC; decide)).2, (f2.1 14 (by unfold cC; decide)).2, (f1.1 14 (by unfold cC; decide)).2, (f0.1 14 (by unfold cC; decide)).2]
      exact (hs.2.2.2.1 t ht).2.2.2.2
    · show n7.I 43 p = _
      rw [(f7.1 43 (by unfold cC; decide)).1, k6 p hp, (f5.1 15 (by unfold cC; decide)).1, (f4.1 15 (by unfold cC; decide)).1, (f3.1 15 (by unfold cC; decide)).1, (f2.1 15 (by unfold cC; decide)).1, (f1.1 15 (by unfold cC; decide)).1, (f0.1 15 (by unfold cC; decide)).1]
      exact (hs.2.2.2.2 p hp).1
    · show n7.I 44 p = _
      rw [k7 p hp, (f6.1 16 (by unfold cC; decide)).1, (f5.1 16 (by unfold cC; decide)).1, (f4.1 16 (by unfold cC; decide)).1, (f3.1 16 (by unfold cC; decide)).1, (f2.1 16 (by unfold cC; decide)).1, (f1.1 16 (by unfold cC; decide)).1, (f0.1 16 (by unfold cC; decide)).1]
      exact (hs.2.2.2.2 p hp).2
  · exact (Fr_tr (Fr_tr (Fr_tr (Fr_tr (Fr_tr (Fr_tr (Fr_tr (Fr_w (d := cS 37) f0 (fun a h => by unfold cC at h; unfold cS; omega)) (Fr_w (d := cS 37) f1 (fun a h => by unfold cC at h; unfold cS; omega))) (Fr_w (d := cS 37) f2 (fun a h => by unfold cC at h; unfold cS; omega))) (Fr_w (d := cS 37) f3 (fun a h => by unfold cC at h; unfold cS; omega))) (Fr_w (d := cS 37) f4 (fun a h => by unfold cC at h; unfold cS; omega))) (Fr_w (d := cS 37) f5 (fun a h => by unfold cC at h; unfold cS; omega))) (Fr_w (d := cS 37) f6 (fun a h => by unfold cC at h; unfold cS; omega))) (Fr_w (d := cS 37) f7 (fun a h => by unfold cC at h; unfold cS; omega)))
theorem cx_9_45_0 (m : Mem) : ∃ m1, cpI (HH m) 10 0 46 0 56 = some (HH m1) ∧ (∀ t, t < 56 → m1.I 46 t = m.I 10 t) ∧ Fr (cC 46) m m1 := ⟨_, cp_9_45_0 m, fun t ht => by rw [rI_I, cpy_at _ _ ht], Fr_rI (Fr_rf _ m) rfl⟩
theorem cx_9_45_1 (m : Mem) : ∃ m1, cpI (HH m) 11 0 47 0 56 = some (HH m1) ∧ (∀ t, t < 56 → m1.I 47 t = m.I 11 t) ∧ Fr (cC 47) m m1 := ⟨_, cp_9_45_1 m, fun t ht => by rw [rI_I, cpy_at _ _ ht], Fr_rI (Fr_rf _ m) rfl⟩
theorem cx_9_45_2 (m : Mem) : ∃ m1, cpI (HH m) 12 0 48 0 56 = some (HH m1) ∧ (∀ t, t < 56 → m1.I 48 t = m.I 12 t) ∧ Fr (cC 48) m m1 := ⟨_, cp_9_45_2 m, fun t ht => by rw [rI_I, cpy_at _ _ ht], Fr_rI (Fr_rf _ m) rfl⟩
theorem cx_9_45_3 (m : Mem) : ∃ m1, cpI (HH m) 13 0 49 0 56 = some (HH m1) ∧ (∀ t, t < 56 → m1.I 49 t = m.I 13 t) ∧ Fr (cC 49) m m1 := ⟨_, cp_9_45_3 m, fun t ht => by rw [rI_I, cpy_at _ _ ht], Fr_rI (Fr_rf _ m) rfl⟩
theorem cx_9_45_4 (m : Mem) : ∃ m1, cpJ (HH m) 14 0 50 0 56 = some (HH m1) ∧ (∀ t, t < 56 → m1.J 50 t = m.J 14 t) ∧ Fr (cC 50) m m1 := ⟨_, cp_9_45_4 m, fun t ht => by rw [rJ_J, cpy_at _ _ ht], Fr_rJ (Fr_rf _ m) rfl⟩
theorem cx_9_45_5 (m : Mem) : ∃ m1, cpI (HH m) 15 0 51 0 8 = some (HH m1) ∧ (∀ t, t < 8 → m1.I 51 t = m.I 15 t) ∧ Fr (cC 51) m m1 := ⟨_, cp_9_45_5 m, fun t ht => by rw [rI_I, cpy_at _ _ ht], Fr_rI (Fr_rf _ m) rfl⟩
theorem cx_9_45_6 (m : Mem) : ∃ m1, cpI (HH m) 16 0 52 0 8 = some (HH m1) ∧ (∀ t, t < 8 → m1.I 52 t = m.I 16 t) ∧ Fr (cC 52) m m1 := ⟨_, cp_9_45_6 m, fun t ht => by rw [rI_I, cpy_at _ _ ht], Fr_rI (Fr_rf _ m) rfl⟩
theorem cpy_9_45 {m : Mem} {s : Nat → Int32} {M : Nat → Int64} (hs : RS 9 m s M) (h1 : s 1 = 0 ∨ s 1 = 1) : ∃ m1, f_X2_copyFrom 45 9 (HH m) = some (HH m1) ∧ RS 45 m1 s M ∧ Fr (cS 45) m m1 := by
  have eg : gB (m.I 9 1) = some () := if_pos (by rw [hs.2.1]; exact h1)
  obtain ⟨n0, d0⟩ : ∃ n0, n0 = ((m.sI 45 0 (m.I 9 0)).sI 45 1 (m.I 9 1)).sI 45 2 (m.I 9 2) := ⟨_, rfl⟩
  have f0 : Fr (cC 45) m n0 := by rw [d0]; exact Fr_sI (c := cC 45) (Fr_sI (c := cC 45) (Fr_sI (c := cC 45) (Fr_rf (cC 45) m) rfl) rfl) rfl
  obtain ⟨n1, e1, k1, f1⟩ := cx_9_45_0 n0
  obtain ⟨n2, e2, k2, f2⟩ := cx_9_45_1 n1
  obtain ⟨n3, e3, k3, f3⟩ := cx_9_45_2 n2
  obtain ⟨n4, e4, k4, f4⟩ := cx_9_45_3 n3
  obtain ⟨n5, e5, k5, f5⟩ := cx_9_45_4 n4
  obtain ⟨n6, e6, k6, f6⟩ := cx_9_45_5 n5
  obtain ⟨n7, e7, k7, f7⟩ := cx_9_45_6 n6
  refine ⟨n7, ?_, ?_, ?_⟩
  · unfold f_X2_copyFrom
    rw [o_45, Option.bind_some, g_9_0, Option.bind_some, p_45_0, Option.bind_some, g_9_1, Option.bind_some, show (m.sI 45 0 (m.I 9 0)).I 9 1 = m.I 9 1 from sI_of _ _ _ _ (by decide), eg, Option.bind_some, p_45_1, Option.bind_some, g_9_2, Option.bind_some, show ((m.sI 45 0 (m.I 9 0)).sI 45 1 (m.I 9 1)).I 9 2 = m.I 9 2 from (sI_of _ _ _ _ (by decide)).trans (sI_of _ _ _ _ (by decide)), p_45_2, Option.bind_some, ← d0]
    rw [g_9_3, Option.bind_some, g_45_3, Option.bind_some, e1, Option.bind_some, g_9_4, Option.bind_some, g_45_4, Option.bind_some, e2, Option.bind_some, g_9_5, Option.bind_some, g_45_5, Option.bind_some, e3, Option.bind_some, g_9_6, Option.bind_some, g_45_6, Option.bind_some, e4, Option.bind_some, g_9_7, Option.bind_some, g_45_7, Option.bind_some, e5, Option.bind_some, g_9_8, Option.bind_some, g_45_8, Option.bind_some, e6, Option.bind_some, g_9_9, Option.bind_some, g_45_9, Option.bind_some, e7, Option.bind_some]
  · refine ⟨?_, ?_, ?_, fun t ht => ⟨?_, ?_, ?_, ?_, ?_⟩, fun p hp => ⟨?_, ?_⟩⟩
    · rw [(f7.1 45 (by unfold cC; decide)).1, (f6.1 45 (by unfold cC; decide)).1, (f5.1 45 (by unfold cC; decide)).1, (f4.1 45 (by unfold cC; decide)).1, (f3.1 45 (by unfold cC; decide)).1, (f2.1 45 (by unfold cC; decide)).1, (f1.1 45 (by unfold cC; decide)).1, d0]
      exact hs.1
    · rw [(f7.1 45 (by unfold cC; decide)).1, (f6.1 45 (by unfold cC; decide)).1, (f5.1 45 (by unfold cC; decide)).1, (f4.1 45 (by unfold cC; decide)).1, (f3.1 45 (by unfold cC; decide)).1, (f2.1 45 (by unfold cC; decide)).1, (f1.1 45 (by unfold cC; decide)).1, d0]
      exact hs.2.1
    · rw [(f7.1 45 (by unfold cC; decide)).1, (f6.1 45 (by unfold cC; decide)).1, (f5.1 45 (by unfold cC; decide)).1, (f4.1 45 (by unfold cC; decide)).1, (f3.1 45 (by unfold cC; decide)).1, (f2.1 45 (by unfold cC; decide)).1, (f1.1 45 (by unfold cC; decide)).1, d0]
      exact hs.2.2.1
    · show n7.I 46 t = _
      rw [(f7.1 46 (by unfold cC; decide)).1, (f6.1 46 (by unfold cC; decide)).1, (f5.1 46 (by unfold cC; decide)).1, (f4.1 46 (by unfold cC; decide)).1, (f3.1 46 (by unfold cC; decide)).1, (f2.1 46 (by unfold cC; decide)).1, k1 t ht, (f0.1 10 (by unfold cC; decide)).1]
      exact (hs.2.2.2.1 t ht).1
    · show n7.I 47 t = _
      rw [(f7.1 47 (by unfold cC; decide)).1, (f6.1 47 (by unfold cC; decide)).1, (f5.1 47 (by unfold cC; decide)).1, (f4.1 47 (by unfold cC; decide)).1, (f3.1 47 (by unfold cC; decide)).1, k2 t ht, (f1.1 11 (by unfold cC; decide)).1, (f0.1 11 (by unfold cC; decide)).1]
      exact (hs.2.2.2.1 t ht).2.1
    · show n7.I 48 t = _
      rw [(f7.1 48 (by unfold cC; decide)).1, (f6.1 48 (by unfold cC; decide)).1, (f5.1 48 (by unfold cC; decide)).1, (f4.1 48 (by unfold cC; decide)).1, k3 t ht, (f2.1 12 (by unfold cC; decide)).1, (f1.1 12 (by unfold cC; decide)).1, (f0.1 12 (by unfold cC; decide)).1]
      exact (hs.2.2.2.1 t ht).2.2.1
    · show n7.I 49 t = _
      rw [(f7.1 49 (by unfold cC; decide)).1, (f6.1 49 (by unfold cC; decide)).1, (f5.1 49 (by unfold cC; decide)).1, k4 t ht, (f3.1 13 (by unfold cC; decide)).1, (f2.1 13 (by unfold cC; decide)).1, (f1.1 13 (by unfold cC; decide)).1, (f0.1 13 (by unfold cC; decide)).1]
      exact (hs.2.2.2.1 t ht).2.2.2.1
    · show n7.J 50 t = _
      rw [(f7.1 50 (by unfold cC; decide)).2, (f6.1 50 (by unfold cC; decide)).2, k5 t ht, (f4.1 14 (by unfold cC; decide)).2, (f3.1 14 (by unfold cC; decide)).2, (f2.1 14 (by unfold cC; decide)).2, (f1.1 14 (by unfold cC; decide)).2, (f0.1 14 (by unfold cC; decide)).2]
      exact (hs.2.2.2.1 t ht).2.2.2.2
    · show n7.I 51 p = _
      rw [(f7.1 51 (by unfold cC; decide)).1, k6 p hp, (f5.1 15 (by unfold cC; decide)).1, (f4.1 15 (by unfold cC; decide)).1, (f3.1 15 (by unfold cC; decide)).1, (f2.1 15 (by unfold cC; decide)).1, (f1.1 15 (by unfold cC; decide)).1, (f0.1 15 (by unfold cC; decide)).1]
      exact (hs.2.2.2.2 p hp).1
    · show n7.I 52 p = _
      rw [k7 p hp, (f6.1 16 (by unfold cC; decide)).1, (f5.1 16 (by unfold cC; decide)).1, (f4.1 16 (by unfold cC; decide)).1, (f3.1 16 (by unfold cC; decide)).1, (f2.1 16 (by unfold cC; decide)).1, (f1.1 16 (by unfold cC; decide)).1, (f0.1 16 (by unfold cC; decide)).1]
      exact (hs.2.2.2.2 p hp).2
  · exact (Fr_tr (Fr_tr (Fr_tr (Fr_tr (Fr_tr (Fr_tr (Fr_tr (Fr_w (d := cS 45) f0 (fun a h => by unfold cC at h; unfold cS; omega)) (Fr_w (d := cS 45) f1 (fun a h => by unfold cC at h; unfold cS; omega))) (Fr_w (d := cS 45) f2 (fun a h => by unfold cC at h; unfold cS; omega))) (Fr_w (d := cS 45) f3 (fun a h => by unfold cC at h; unfold cS; omega))) (Fr_w (d := cS 45) f4 (fun a h => by unfold cC at h; unfold cS; omega))) (Fr_w (d := cS 45) f5 (fun a h => by unfold cC at h; unfold cS; omega))) (Fr_w (d := cS 45) f6 (fun a h => by unfold cC at h; unfold cS; omega))) (Fr_w (d := cS 45) f7 (fun a h => by unfold cC at h; unfold cS; omega)))
theorem cx_9_53_0 (m : Mem) : ∃ m1, cpI (HH m) 10 0 54 0 56 = some (HH m1) ∧ (∀ t, t < 56 → m1.I 54 t = m.I 10 t) ∧ Fr (cC 54) m m1 := ⟨_, cp_9_53_0 m, fun t ht => by rw [rI_I, cpy_at _ _ ht], Fr_rI (Fr_rf _ m) rfl⟩
theorem cx_9_53_1 (m : Mem) : ∃ m1, cpI (HH m) 11 0 55 0 56 = some (HH m1) ∧ (∀ t, t < 56 → m1.I 55 t = m.I 11 t) ∧ Fr (cC 55) m m1 := ⟨_, cp_9_53_1 m, fun t ht => by rw [rI_I, cpy_at _ _ ht], Fr_rI (Fr_rf _ m) rfl⟩
theorem cx_9_53_2 (m : Mem) : ∃ m1, cpI (HH m) 12 0 56 0 56 = some (HH m1) ∧ (∀ t, t < 56 → m1.I 56 t = m.I 12 t) ∧ Fr (cC 56) m m1 := ⟨_, cp_9_53_2 m, fun t ht => by rw [rI_I, cpy_at _ _ ht], Fr_rI (Fr_rf _ m) rfl⟩
theorem cx_9_53_3 (m : Mem) : ∃ m1, cpI (HH m) 13 0 57 0 56 = some (HH m1) ∧ (∀ t, t < 56 → m1.I 57 t = m.I 13 t) ∧ Fr (cC 57) m m1 := ⟨_, cp_9_53_3 m, fun t ht => by rw [rI_I, cpy_at _ _ ht], Fr_rI (Fr_rf _ m) rfl⟩
theorem cx_9_53_4 (m : Mem) : ∃ m1, cpJ (HH m) 14 0 58 0 56 = some (HH m1) ∧ (∀ t, t < 56 → m1.J 58 t = m.J 14 t) ∧ Fr (cC 58) m m1 := ⟨_, cp_9_53_4 m, fun t ht => by rw [rJ_J, cpy_at _ _ ht], Fr_rJ (Fr_rf _ m) rfl⟩
theorem cx_9_53_5 (m : Mem) : ∃ m1, cpI (HH m) 15 0 59 0 8 = some (HH m1) ∧ (∀ t, t < 8 → m1.I 59 t = m.I 15 t) ∧ Fr (cC 59) m m1 := ⟨_, cp_9_53_5 m, fun t ht => by rw [rI_I, cpy_at _ _ ht], Fr_rI (Fr_rf _ m) rfl⟩
theorem cx_9_53_6 (m : Mem) : ∃ m1, cpI (HH m) 16 0 60 0 8 = some (HH m1) ∧ (∀ t, t < 8 → m1.I 60 t = m.I 16 t) ∧ Fr (cC 60) m m1 := ⟨_, cp_9_53_6 m, fun t ht => by rw [rI_I, cpy_at _ _ ht], Fr_rI (Fr_rf _ m) rfl⟩
theorem cpy_9_53 {m : Mem} {s : Nat → Int32} {M : Nat → Int64} (hs : RS 9 m s M) (h1 : s 1 = 0 ∨ s 1 = 1) : ∃ m1, f_X2_copyFrom 53 9 (HH m) = some (HH m1) ∧ RS 53 m1 s M ∧ Fr (cS 53) m m1 := by
  have eg : gB (m.I 9 1) = some () := if_pos (by rw [hs.2.1]; exact h1)
  obtain ⟨n0, d0⟩ : ∃ n0, n0 = ((m.sI 53 0 (m.I 9 0)).sI 53 1 (m.I 9 1)).sI 53 2 (m.I 9 2) := ⟨_, rfl⟩
  have f0 : Fr (cC 53) m n0 := by rw [d0]; exact Fr_sI (c := cC 53) (Fr_sI (c := cC 53) (Fr_sI (c := cC 53) (Fr_rf (cC 53) m) rfl) rfl) rfl
  obtain ⟨n1, e1, k1, f1⟩ := cx_9_53_0 n0
  obtain ⟨n2, e2, k2, f2⟩ := cx_9_53_1 n1
  obtain ⟨n3, e3, k3, f3⟩ := cx_9_53_2 n2
  obtain ⟨n4, e4, k4, f4⟩ := cx_9_53_3 n3
  obtain ⟨n5, e5, k5, f5⟩ := cx_9_53_4 n4
  obtain ⟨n6, e6, k6, f6⟩ := cx_9_53_5 n5
  obtain ⟨n7, e7, k7, f7⟩ := cx_9_53_6 n6
  refine ⟨n7, ?_, ?_, ?_⟩
  · unfold f_X2_copyFrom
    rw [o_53, Option.bind_some, g_9_0, Option.bind_some, p_53_0, Option.bind_some, g_9_1, Option.bind_some, show (m.sI 53 0 (m.I 9 0)).I 9 1 = m.I 9 1 from sI_of _ _ _ _ (by decide), eg, Option.bind_some, p_53_1, Option.bind_some, g_9_2, Option.bind_some, show ((m.sI 53 0 (m.I 9 0)).sI 53 1 (m.I 9 1)).I 9 2 = m.I 9 2 from (sI_of _ _ _ _ (by decide)).trans (sI_of _ _ _ _ (by decide)), p_53_2, Option.bind_some, ← d0]
    rw [g_9_3, Option.bind_some, g_53_3, Option.bind_some, e1, Option.bind_some, g_9_4, Option.bind_some, g_53_4, Option.bind_some, e2, Option.bind_some, g_9_5, Option.bind_some, g_53_5, Option.bind_some, e3, Option.bind_some, g_9_6, Option.bind_some, g_53_6, Option.bind_some, e4, Option.bind_some, g_9_7, Option.bind_some, g_53_7, Option.bind_some, e5, Option.bind_some, g_9_8, Option.bind_some, g_53_8, Option.bind_some, e6, Option.bind_some, g_9_9, Option.bind_some, g_53_9, Option.bind_some, e7, Option.bind_some]
  · refine ⟨?_, ?_, ?_, fun t ht => ⟨?_, ?_, ?_, ?_, ?_⟩, fun p hp => ⟨?_, ?_⟩⟩
    · rw [(f7.1 53 (by unfold cC; decide)).1, (f6.1 53 (by unfold cC; decide)).1, (f5.1 53 (by unfold cC; decide)).1, (f4.1 53 (by unfold cC; decide)).1, (f3.1 53 (by unfold cC; decide)).1, (f2.1 53 (by unfold cC; decide)).1, (f1.1 53 (by unfold cC; decide)).1, d0]
      exact hs.1
    · rw [(f7.1 53 (by unfold cC; decide)).1, (f6.1 53 (by unfold cC; decide)).1, (f5.1 53 (by unfold cC; decide)).1, (f4.1 53 (by unfold cC; decide)).1, (f3.1 53 (by unfold cC; decide)).1, (f2.1 53 (by unfold cC; decide)).1, (f1.1 53 (by unfold cC; decide)).1, d0]
      exact hs.2.1
    · rw [(f7.1 53 (by unfold cC; decide)).1, (f6.1 53 (by unfold cC; decide)).1, (f5.1 53 (by unfold cC; decide)).1, (f4.1 53 (by unfold cC; decide)).1, (f3.1 53 (by unfold cC; decide)).1, (f2.1 53 (by unfold cC; decide)).1, (f1.1 53 (by unfold cC; decide)).1, d0]
      exact hs.2.2.1
    · show n7.I 54 t = _
      rw [(f7.1 54 (by unfold cC; decide)).1, (f6.1 54 (by unfold cC; decide)).1, (f5.1 54 (by unfold cC; decide)).1, (f4.1 54 (by unfold cC; decide)).1, (f3.1 54 (by unfold cC; decide)).1, (f2.1 54 (by unfold cC; decide)).1, k1 t ht, (f0.1 10 (by unfold cC; decide)).1]
      exact (hs.2.2.2.1 t ht).1
    · show n7.I 55 t = _
      rw [(f7.1 55 (by unfold cC; decide)).1, (f6.1 55 (by unfold cC; decide)).1, (f5.1 55 (by unfold cC; decide)).1, (f4.1 55 (by unfold cC; decide)).1, (f3.1 55 (by unfold cC; decide)).1, k2 t ht, (f1.1 11 (by unfold cC; decide)).1, (f0.1 11 (by unfold cC; decide)).1]
      exact (hs.2.2.2.1 t ht).2.1
    · show n7.I 56 t = _
      rw [(f7.1 56 (by unfold cC; decide)).1, (f6.1 56 (by unfold cC; decide)).1, (f5.1 56 (by unfold cC; decide)).1, (f4.1 56 (by unfold cC; decide)).1, k3 t ht, (f2.1 12 (by unfold cC; decide)).1, (f1.1 12 (by unfold cC; decide)).1, (f0.1 12 (by unfold cC; decide)).1]
      exact (hs.2.2.2.1 t ht).2.2.1
    · show n7.I 57 t = _
      rw [(f7.1 57 (by unfold cC; decide)).1, (f6.1 57 (by unfold cC; decide)).1, (f5.1 57 (by unfold cC; decide)).1, k4 t ht, (f3.1 13 (by unfold cC; decide)).1, (f2.1 13 (by unfold cC; decide)).1, (f1.1 13 (by unfold cC; decide)).1, (f0.1 13 (by unfold cC; decide)).1]
      exact (hs.2.2.2.1 t ht).2.2.2.1
    · show n7.J 58 t = _
      rw [(f7.1 58 (by unfold cC; decide)).2, (f6.1 58 (by unfold cC; decide)).2, k5 t ht, (f4.1 14 (by unfold cC; decide)).2, (f3.1 14 (by unfold cC; decide)).2, (f2.1 14 (by unfold cC; decide)).2, (f1.1 14 (by unfold cC; decide)).2, (f0.1 14 (by unfold cC; decide)).2]
      exact (hs.2.2.2.1 t ht).2.2.2.2
    · show n7.I 59 p = _
      rw [(f7.1 59 (by unfold cC; decide)).1, k6 p hp, (f5.1 15 (by unfold cC; decide)).1, (f4.1 15 (by unfold cC; decide)).1, (f3.1 15 (by unfold cC; decide)).1, (f2.1 15 (by unfold cC; decide)).1, (f1.1 15 (by unfold cC; decide)).1, (f0.1 15 (by unfold cC; decide)).1]
      exact (hs.2.2.2.2 p hp).1
    · show n7.I 60 p = _
      rw [k7 p hp, (f6.1 16 (by unfold cC; decide)).1, (f5.1 16 (by unfold cC; decide)).1, (f4.1 16 (by unfold cC; decide)).1, (f3.1 16 (by unfold cC; decide)).1, (f2.1 16 (by unfold cC; decide)).1, (f1.1 16 (by unfold cC; decide)).1, (f0.1 16 (by unfold cC; decide)).1]
      exact (hs.2.2.2.2 p hp).2
  · exact (Fr_tr (Fr_tr (Fr_tr (Fr_tr (Fr_tr (Fr_tr (Fr_tr (Fr_w (d := cS 53) f0 (fun a h => by unfold cC at h; unfold cS; omega)) (Fr_w (d := cS 53) f1 (fun a h => by unfold cC at h; unfold cS; omega))) (Fr_w (d := cS 53) f2 (fun a h => by unfold cC at h; unfold cS; omega))) (Fr_w (d := cS 53) f3 (fun a h => by unfold cC at h; unfold cS; omega))) (Fr_w (d := cS 53) f4 (fun a h => by unfold cC at h; unfold cS; omega))) (Fr_w (d := cS 53) f5 (fun a h => by unfold cC at h; unfold cS; omega))) (Fr_w (d := cS 53) f6 (fun a h => by unfold cC at h; unfold cS; omega))) (Fr_w (d := cS 53) f7 (fun a h => by unfold cC at h; unfold cS; omega)))
theorem cx_29_9_0 (m : Mem) : ∃ m1, cpI (HH m) 30 0 10 0 56 = some (HH m1) ∧ (∀ t, t < 56 → m1.I 10 t = m.I 30 t) ∧ Fr (cC 10) m m1 := ⟨_, cp_29_9_0 m, fun t ht => by rw [rI_I, cpy_at _ _ ht], Fr_rI (Fr_rf _ m) rfl⟩
theorem cx_29_9_1 (m : Mem) : ∃ m1, cpI (HH m) 31 0 11 0 56 = some (HH m1) ∧ (∀ t, t < 56 → m1.I 11 t = m.I 31 t) ∧ Fr (cC 11) m m1 := ⟨_, cp_29_9_1 m, fun t ht => by rw [rI_I, cpy_at _ _ ht], Fr_rI (Fr_rf _ m) rfl⟩
theorem cx_29_9_2 (m : Mem) : ∃ m1, cpI (HH m) 32 0 12 0 56 = some (HH m1) ∧ (∀ t, t < 56 → m1.I 12 t = m.I 32 t) ∧ Fr (cC 12) m m1 := ⟨_, cp_29_9_2 m, fun t ht => by rw [rI_I, cpy_at _ _ ht], Fr_rI (Fr_rf _ m) rfl⟩
theorem cx_29_9_3 (m : Mem) : ∃ m1, cpI (HH m) 33 0 13 0 56 = some (HH m1) ∧ (∀ t, t < 56 → m1.I 13 t = m.I 33 t) ∧ Fr (cC 13) m m1 := ⟨_, cp_29_9_3 m, fun t ht => by rw [rI_I, cpy_at _ _ ht], Fr_rI (Fr_rf _ m) rfl⟩
theorem cx_29_9_4 (m : Mem) : ∃ m1, cpJ (HH m) 34 0 14 0 56 = some (HH m1) ∧ (∀ t, t < 56 → m1.J 14 t = m.J 34 t) ∧ Fr (cC 14) m m1 := ⟨_, cp_29_9_4 m, fun t ht => by rw [rJ_J, cpy_at _ _ ht], Fr_rJ (Fr_rf _ m) rfl⟩
theorem cx_29_9_5 (m : Mem) : ∃ m1, cpI (HH m) 35 0 15 0 8 = some (HH m1) ∧ (∀ t, t < 8 → m1.I 15 t = m.I 35 t) ∧ Fr (cC 15) m m1 := ⟨_, cp_29_9_5 m, fun t ht => by rw [rI_I, cpy_at _ _ ht], Fr_rI (Fr_rf _ m) rfl⟩
theorem cx_29_9_6 (m : Mem) : ∃ m1, cpI (HH m) 36 0 16 0 8 = some (HH m1) ∧ (∀ t, t < 8 → m1.I 16 t = m.I 36 t) ∧ Fr (cC 16) m m1 := ⟨_, cp_29_9_6 m, fun t ht => by rw [rI_I, cpy_at _ _ ht], Fr_rI (Fr_rf _ m) rfl⟩
theorem cpy_29_9 {m : Mem} {s : Nat → Int32} {M : Nat → Int64} (hs : RS 29 m s M) (h1 : s 1 = 0 ∨ s 1 = 1) : ∃ m1, f_X2_copyFrom 9 29 (HH m) = some (HH m1) ∧ RS 9 m1 s M ∧ Fr (cS 9) m m1 := by
  have eg : gB (m.I 29 1) = some () := if_pos (by rw [hs.2.1]; exact h1)
  obtain ⟨n0, d0⟩ : ∃ n0, n0 = ((m.sI 9 0 (m.I 29 0)).sI 9 1 (m.I 29 1)).sI 9 2 (m.I 29 2) := ⟨_, rfl⟩
  have f0 : Fr (cC 9) m n0 := by rw [d0]; exact Fr_sI (c := cC 9) (Fr_sI (c := cC 9) (Fr_sI (c := cC 9) (Fr_rf (cC 9) m) rfl) rfl) rfl
  obtain ⟨n1, e1, k1, f1⟩ := cx_29_9_0 n0
  obtain ⟨n2, e2, k2, f2⟩ := cx_29_9_1 n1
  obtain ⟨n3, e3, k3, f3⟩ := cx_29_9_2 n2
  obtain ⟨n4, e4, k4, f4⟩ := cx_29_9_3 n3
  obtain ⟨n5, e5, k5, f5⟩ := cx_29_9_4 n4
  obtain ⟨n6, e6, k6, f6⟩ := cx_29_9_5 n5
  obtain ⟨n7, e7, k7, f7⟩ := cx_29_9_6 n6
  refine ⟨n7, ?_, ?_, ?_⟩
  · unfold f_X2_copyFrom
    rw [o_9, Option.bind_some, g_29_0, Option.bind_some, p_9_0, Option.bind_some, g_29_1, Option.bind_some, show (m.sI 9 0 (m.I 29 0)).I 29 1 = m.I 29 1 from sI_of _ _ _ _ (by decide), eg, Option.bind_some, p_9_1, Option.bind_some, g_29_2, Option.bind_some, show ((m.sI 9 0 (m.I 29 0)).sI 9 1 (m.I 29 1)).I 29 2 = m.I 29 2 from (sI_of _ _ _ _ (by decide)).trans (sI_of _ _ _ _ (by decide)), p_9_2, Option.bind_some, ← d0]
    rw [g_29_3, Option.bind_some, g_9_3, Option.bind_some, e1, Option.bind_some, g_29_4, Option.bind_some, g_9_4, Option.bind_some, e2, Option.bind_some, g_29_5, Option.bind_some, g_9_5, Option.bind_some, e3, Option.bind_some, g_29_6, Option.bind_some, g_9_6, Option.bind_some, e4, Option.bind_some, g_29_7, Option.bind_some, g_9_7, Option.bind_some, e5, Option.bind_some, g_29_8, Option.bind_some, g_9_8, Option.bind_some, e6, Option.bind_some, g_29_9, Option.bind_some, g_9_9, Option.bind_some, e7, Option.bind_some]
  · refine ⟨?_, ?_, ?_, fun t ht => ⟨?_, ?_, ?_, ?_, ?_⟩, fun p hp => ⟨?_, ?_⟩⟩
    · rw [(f7.1 9 (by unfold cC; decide)).1, (f6.1 9 (by unfold cC; decide)).1, (f5.1 9 (by unfold cC; decide)).1, (f4.1 9 (by unfold cC; decide)).1, (f3.1 9 (by unfold cC; decide)).1, (f2.1 9 (by unfold cC; decide)).1, (f1.1 9 (by unfold cC; decide)).1, d0]
      exact hs.1
    · rw [(f7.1 9 (by unfold cC; decide)).1, (f6.1 9 (by unfold cC; decide)).1, (f5.1 9 (by unfold cC; decide)).1, (f4.1 9 (by unfold cC; decide)).1, (f3.1 9 (by unfold cC; decide)).1, (f2.1 9 (by unfold cC; decide)).1, (f1.1 9 (by unfold cC; decide)).1, d0]
      exact hs.2.1
    · rw [(f7.1 9 (by unfold cC; decide)).1, (f6.1 9 (by unfold cC; decide)).1, (f5.1 9 (by unfold cC; decide)).1, (f4.1 9 (by unfold cC; decide)).1, (f3.1 9 (by unfold cC; decide)).1, (f2.1 9 (by unfold cC; decide)).1, (f1.1 9 (by unfold cC; decide)).1, d0]
      exact hs.2.2.1
    · show n7.I 10 t = _
      rw [(f7.1 10 (by unfold cC; decide)).1, (f6.1 10 (by unfold cC; decide)).1, (f5.1 10 (by unfold cC; decide)).1, (f4.1 10 (by unfold cC; decide)).1, (f3.1 10 (by unfold cC; decide)).1, (f2.1 10 (by unfold cC; decide)).1, k1 t ht, (f0.1 30 (by unfold cC; decide)).1]
      exact (hs.2.2.2.1 t ht).1
    · show n7.I 11 t = _
      rw [(f7.1 11 (by unfold cC; decide)).1, (f6.1 11 (by unfold cC; decide)).1, (f5.1 11 (by unfold cC; decide)).1, (f4.1 11 (by unfold cC; decide)).1, (f3.1 11 (by unfold cC; decide)).1, k2 t ht, (f1.1 31 (by unfold cC; decide)).1, (f0.1 31 (by unfold cC; decide)).1]
      exact (hs.2.2.2.1 t ht).2.1
    · show n7.I 12 t = _
      rw [(f7.1 12 (by unfold cC; decide)).1, (f6.1 12 (by unfold cC; decide)).1, (f5.1 12 (by unfold cC; decide)).1, (f4.1 12 (by unfold cC; decide)).1, k3 t ht, (f2.1 32 (by unfold cC; decide)).1, (f1.1 32 (by unfold cC; decide)).1, (f0.1 32 (by unfold cC; decide)).1]
      exact (hs.2.2.2.1 t ht).2.2.1
    · show n7.I 13 t = _
      rw [(f7.1 13 (by unfold cC; decide)).1, (f6.1 13 (by unfold cC; decide)).1, (f5.1 13 (by unfold cC; decide)).1, k4 t ht, (f3.1 33 (by unfold cC; decide)).1, (f2.1 33 (by unfold cC; decide)).1, (f1.1 33 (by unfold cC; decide)).1, (f0.1 33 (by unfold cC; decide)).1]
      exact (hs.2.2.2.1 t ht).2.2.2.1
    · show n7.J 14 t = _
      rw [(f7.1 14 (by unfold cC; decide)).2, (f6.1 14 (by unfold cC; decide)).2, k5 t ht, (f4.1 34 (by unfold cC; decide)).2, (f3.1 34 (by unfold cC; decide)).2, (f2.1 34 (by unfold cC; decide)).2, (f1.1 34 (by unfold cC; decide)).2, (f0.1 34 (by unfold cC; decide)).2]
      exact (hs.2.2.2.1 t ht).2.2.2.2
    · show n7.I 15 p = _
      rw [(f7.1 15 (by unfold cC; decide)).1, k6 p hp, (f5.1 35 (by unfold cC; decide)).1, (f4.1 35 (by unfold cC; decide)).1, (f3.1 35 (by unfold cC; decide)).1, (f2.1 35 (by unfold cC; decide)).1, (f1.1 35 (by unfold cC; decide)).1, (f0.1 35 (by unfold cC; decide)).1]
      exact (hs.2.2.2.2 p hp).1
    · show n7.I 16 p = _
      rw [k7 p hp, (f6.1 36 (by unfold cC; decide)).1, (f5.1 36 (by unfold cC; decide)).1, (f4.1 36 (by unfold cC; decide)).1, (f3.1 36 (by unfold cC; decide)).1, (f2.1 36 (by unfold cC; decide)).1, (f1.1 36 (by unfold cC; decide)).1, (f0.1 36 (by unfold cC; decide)).1]
      exact (hs.2.2.2.2 p hp).2
  · exact (Fr_tr (Fr_tr (Fr_tr (Fr_tr (Fr_tr (Fr_tr (Fr_tr (Fr_w (d := cS 9) f0 (fun a h => by unfold cC at h; unfold cS; omega)) (Fr_w (d := cS 9) f1 (fun a h => by unfold cC at h; unfold cS; omega))) (Fr_w (d := cS 9) f2 (fun a h => by unfold cC at h; unfold cS; omega))) (Fr_w (d := cS 9) f3 (fun a h => by unfold cC at h; unfold cS; omega))) (Fr_w (d := cS 9) f4 (fun a h => by unfold cC at h; unfold cS; omega))) (Fr_w (d := cS 9) f5 (fun a h => by unfold cC at h; unfold cS; omega))) (Fr_w (d := cS 9) f6 (fun a h => by unfold cC at h; unfold cS; omega))) (Fr_w (d := cS 9) f7 (fun a h => by unfold cC at h; unfold cS; omega)))
theorem cx_37_9_0 (m : Mem) : ∃ m1, cpI (HH m) 38 0 10 0 56 = some (HH m1) ∧ (∀ t, t < 56 → m1.I 10 t = m.I 38 t) ∧ Fr (cC 10) m m1 := ⟨_, cp_37_9_0 m, fun t ht => by rw [rI_I, cpy_at _ _ ht], Fr_rI (Fr_rf _ m) rfl⟩
theorem cx_37_9_1 (m : Mem) : ∃ m1, cpI (HH m) 39 0 11 0 56 = some (HH m1) ∧ (∀ t, t < 56 → m1.I 11 t = m.I 39 t) ∧ Fr (cC 11) m m1 := ⟨_, cp_37_9_1 m, fun t ht => by rw [rI_I, cpy_at _ _ ht], Fr_rI (Fr_rf _ m) rfl⟩
theorem cx_37_9_2 (m : Mem) : ∃ m1, cpI (HH m) 40 0 12 0 56 = some (HH m1) ∧ (∀ t, t < 56 → m1.I 12 t = m.I 40 t) ∧ Fr (cC 12) m m1 := ⟨_, cp_37_9_2 m, fun t ht => by rw [rI_I, cpy_at _ _ ht], Fr_rI (Fr_rf _ m) rfl⟩
theorem cx_37_9_3 (m : Mem) : ∃ m1, cpI (HH m) 41 0 13 0 56 = some (HH m1) ∧ (∀ t, t < 56 → m1.I 13 t = m.I 41 t) ∧ Fr (cC 13) m m1 := ⟨_, cp_37_9_3 m, fun t ht => by rw [rI_I, cpy_at _ _ ht], Fr_rI (Fr_rf _ m) rfl⟩
theorem cx_37_9_4 (m : Mem) : ∃ m1, cpJ (HH m) 42 0 14 0 56 = some (HH m1) ∧ (∀ t, t < 56 → m1.J 14 t = m.J 42 t) ∧ Fr (cC 14) m m1 := ⟨_, cp_37_9_4 m, fun t ht => by rw [rJ_J, cpy_at _ _ ht], Fr_rJ (Fr_rf _ m) rfl⟩
theorem cx_37_9_5 (m : Mem) : ∃ m1, cpI (HH m) 43 0 15 0 8 = some (HH m1) ∧ (∀ t, t < 8 → m1.I 15 t = m.I 43 t) ∧ Fr (cC 15) m m1 := ⟨_, cp_37_9_5 m, fun t ht => by rw [rI_I, cpy_at _ _ ht], Fr_rI (Fr_rf _ m) rfl⟩
theorem cx_37_9_6 (m : Mem) : ∃ m1, cpI (HH m) 44 0 16 0 8 = some (HH m1) ∧ (∀ t, t < 8 → m1.I 16 t = m.I 44 t) ∧ Fr (cC 16) m m1 := ⟨_, cp_37_9_6 m, fun t ht => by rw [rI_I, cpy_at _ _ ht], Fr_rI (Fr_rf _ m) rfl⟩
theorem cpy_37_9 {m : Mem} {s : Nat → Int32} {M : Nat → Int64} (hs : RS 37 m s M) (h1 : s 1 = 0 ∨ s 1 = 1) : ∃ m1, f_X2_copyFrom 9 37 (HH m) = some (HH m1) ∧ RS 9 m1 s M ∧ Fr (cS 9) m m1 := by
  have eg : gB (m.I 37 1) = some () := if_pos (by rw [hs.2.1]; exact h1)
  obtain ⟨n0, d0⟩ : ∃ n0, n0 = ((m.sI 9 0 (m.I 37 0)).sI 9 1 (m.I 37 1)).sI 9 2 (m.I 37 2) := ⟨_, rfl⟩
  have f0 : Fr (cC 9) m n0 := by rw [d0]; exact Fr_sI (c := cC 9) (Fr_sI (c := cC 9) (Fr_sI (c := cC 9) (Fr_rf (cC 9) m) rfl) rfl) rfl
  obtain ⟨n1, e1, k1, f1⟩ := cx_37_9_0 n0
  obtain ⟨n2, e2, k2, f2⟩ := cx_37_9_1 n1
  obtain ⟨n3, e3, k3, f3⟩ := cx_37_9_2 n2
  obtain ⟨n4, e4, k4, f4⟩ := cx_37_9_3 n3
  obtain ⟨n5, e5, k5, f5⟩ := cx_37_9_4 n4
  obtain ⟨n6, e6, k6, f6⟩ := cx_37_9_5 n5
  obtain ⟨n7, e7, k7, f7⟩ := cx_37_9_6 n6
  refine ⟨n7, ?_, ?_, ?_⟩
  · unfold f_X2_copyFrom
    rw [o_9, Option.bind_some, g_37_0, Option.bind_some, p_9_0, Option.bind_some, g_37_1, Option.bind_some, show (m.sI 9 0 (m.I 37 0)).I 37 1 = m.I 37 1 from sI_of _ _ _ _ (by decide), eg, Option.bind_some, p_9_1, Option.bind_some, g_37_2, Option.bind_some, show ((m.sI 9 0 (m.I 37 0)).sI 9 1 (m.I 37 1)).I 37 2 = m.I 37 2 from (sI_of _ _ _ _ (by decide)).trans (sI_of _ _ _ _ (by decide)), p_9_2, Option.bind_some, ← d0]
    rw [g_37_3, Option.bind_some, g_9_3, Option.bind_some, e1, Option.bind_some, g_37_4, Option.bind_some, g_9_4, Option.bind_some, e2, Option.bind_some, g_37_5, Option.bind_some, g_9_5, Option.bind_some, e3, Option.bind_some, g_37_6, Option.bind_some, g_9_6, Option.bind_some, e4, Option.bind_some, g_37_7, Option.bind_some, g_9_7, Option.bind_some, e5, Option.bind_some, g_37_8, Option.bind_some, g_9_8, Option.bind_some, e6, Option.bind_some, g_37_9, Option.bind_some, g_9_9, Option.bind_some, e7, Option.bind_some]
  · refine ⟨?_, ?_, ?_, fun t ht => ⟨?_, ?_, ?_, ?_, ?_⟩, fun p hp => ⟨?_, ?_⟩⟩
    · rw [(f7.1 9 (by unfold cC; decide)).1, (f6.1 9 (by unfold cC; decide)).1, (f5.1 9 (by unfold cC; decide)).1, (f4.1 9 (by unfold cC; decide)).1, (f3.1 9 (by unfold cC; decide)).1, (f2.1 9 (by unfold cC; decide)).1, (f1.1 9 (by unfold cC; decide)).1, d0]
      exact hs.1
    · rw [(f7.1 9 (by unfold cC; decide)).1, (f6.1 9 (by unfold cC; decide)).1, (f5.1 9 (by unfold cC; decide)).1, (f4.1 9 (by unfold cC; decide)).1, (f3.1 9 (by unfold cC; decide)).1, (f2.1 9 (by unfold cC; decide)).1, (f1.1 9 (by unfold cC; decide)).1, d0]
      exact hs.2.1
    · rw [(f7.1 9 (by unfold cC; decide)).1, (f6.1 9 (by unfold cC; decide)).1, (f5.1 9 (by unfold cC; decide)).1, (f4.1 9 (by unfold cC; decide)).1, (f3.1 9 (by unfold cC; decide)).1, (f2.1 9 (by unfold cC; decide)).1, (f1.1 9 (by unfold cC; decide)).1, d0]
      exact hs.2.2.1
    · show n7.I 10 t = _
      rw [(f7.1 10 (by unfold cC; decide)).1, (f6.1 10 (by unfold cC; decide)).1, (f5.1 10 (by unfold cC; decide)).1, (f4.1 10 (by unfold cC; decide)).1, (f3.1 10 (by unfold cC; decide)).1, (f2.1 10 (by unfold cC; decide)).1, k1 t ht, (f0.1 38 (by unfold cC; decide)).1]
      exact (hs.2.2.2.1 t ht).1
    · show n7.I 11 t = _
      rw [(f7.1 11 (by unfold cC; decide)).1, (f6.1 11 (by unfold cC; decide)).1, (f5.1 11 (by unfold cC; decide)).1, (f4.1 11 (by unfold cC; decide)).1, (f3.1 11 (by unfold cC; decide)).1, k2 t ht, (f1.1 39 (by unfold cC; decide)).1, (f0.1 39 (by unfold cC; decide)).1]
      exact (hs.2.2.2.1 t ht).2.1
    · show n7.I 12 t = _
      rw [(f7.1 12 (by unfold cC; decide)).1, (f6.1 12 (by unfold cC; decide)).1, (f5.1 12 (by unfold cC; decide)).1, (f4.1 12 (by unfold cC; decide)).1, k3 t ht, (f2.1 40 (by unfold cC; decide)).1, (f1.1 40 (by unfold cC; decide)).1, (f0.1 40 (by unfold cC; decide)).1]
      exact (hs.2.2.2.1 t ht).2.2.1
    · show n7.I 13 t = _
      rw [(f7.1 13 (by unfold cC; decide)).1, (f6.1 13 (by unfold cC; decide)).1, (f5.1 13 (by unfold cC; decide)).1, k4 t ht, (f3.1 41 (by unfold cC; decide)).1, (f2.1 41 (by unfold cC; decide)).1, (f1.1 41 (by unfold cC; decide)).1, (f0.1 41 (by unfold cC; decide)).1]
      exact (hs.2.2.2.1 t ht).2.2.2.1
    · show n7.J 14 t = _
      rw [(f7.1 14 (by unfold cC; decide)).2, (f6.1 14 (by unfold cC; decide)).2, k5 t ht, (f4.1 42 (by unfold cC; decide)).2, (f3.1 42 (by unfold cC; decide)).2, (f2.1 42 (by unfold cC; decide)).2, (f1.1 42 (by unfold cC; decide)).2, (f0.1 42 (by unfold cC; decide)).2]
      exact (hs.2.2.2.1 t ht).2.2.2.2
    · show n7.I 15 p = _
      rw [(f7.1 15 (by unfold cC; decide)).1, k6 p hp, (f5.1 43 (by unfold cC; decide)).1, (f4.1 43 (by unfold cC; decide)).1, (f3.1 43 (by unfold cC; decide)).1, (f2.1 43 (by unfold cC; decide)).1, (f1.1 43 (by unfold cC; decide)).1, (f0.1 43 (by unfold cC; decide)).1]
      exact (hs.2.2.2.2 p hp).1
    · show n7.I 16 p = _
      rw [k7 p hp, (f6.1 44 (by unfold cC; decide)).1, (f5.1 44 (by unfold cC; decide)).1, (f4.1 44 (by unfold cC; decide)).1, (f3.1 44 (by unfold cC; decide)).1, (f2.1 44 (by unfold cC; decide)).1, (f1.1 44 (by unfold cC; decide)).1, (f0.1 44 (by unfold cC; decide)).1]
      exact (hs.2.2.2.2 p hp).2
  · exact (Fr_tr (Fr_tr (Fr_tr (Fr_tr (Fr_tr (Fr_tr (Fr_tr (Fr_w (d := cS 9) f0 (fun a h => by unfold cC at h; unfold cS; omega)) (Fr_w (d := cS 9) f1 (fun a h => by unfold cC at h; unfold cS; omega))) (Fr_w (d := cS 9) f2 (fun a h => by unfold cC at h; unfold cS; omega))) (Fr_w (d := cS 9) f3 (fun a h => by unfold cC at h; unfold cS; omega))) (Fr_w (d := cS 9) f4 (fun a h => by unfold cC at h; unfold cS; omega))) (Fr_w (d := cS 9) f5 (fun a h => by unfold cC at h; unfold cS; omega))) (Fr_w (d := cS 9) f6 (fun a h => by unfold cC at h; unfold cS; omega))) (Fr_w (d := cS 9) f7 (fun a h => by unfold cC at h; unfold cS; omega)))
theorem cx_45_9_0 (m : Mem) : ∃ m1, cpI (HH m) 46 0 10 0 56 = some (HH m1) ∧ (∀ t, t < 56 → m1.I 10 t = m.I 46 t) ∧ Fr (cC 10) m m1 := ⟨_, cp_45_9_0 m, fun t ht => by rw [rI_I, cpy_at _ _ ht], Fr_rI (Fr_rf _ m) rfl⟩
theorem cx_45_9_1 (m : Mem) : ∃ m1, cpI (HH m) 47 0 11 0 56 = some (HH m1) ∧ (∀ t, t < 56 → m1.I 11 t = m.I 47 t) ∧ Fr (cC 11) m m1 := ⟨_, cp_45_9_1 m, fun t ht => by rw [rI_I, cpy_at _ _ ht], Fr_rI (Fr_rf _ m) rfl⟩
theorem cx_45_9_2 (m : Mem) : ∃ m1, cpI (HH m) 48 0 12 0 56 = some (HH m1) ∧ (∀ t, t < 56 → m1.I 12 t = m.I 48 t) ∧ Fr (cC 12) m m1 := ⟨_, cp_45_9_2 m, fun t ht => by rw [rI_I, cpy_at _ _ ht], Fr_rI (Fr_rf _ m) rfl⟩
theorem cx_45_9_3 (m : Mem) : ∃ m1, cpI (HH m) 49 0 13 0 56 = some (HH m1) ∧ (∀ t, t < 56 → m1.I 13 t = m.I 49 t) ∧ Fr (cC 13) m m1 := ⟨_, cp_45_9_3 m, fun t ht => by rw [rI_I, cpy_at _ _ ht], Fr_rI (Fr_rf _ m) rfl⟩
theorem cx_45_9_4 (m : Mem) : ∃ m1, cpJ (HH m) 50 0 14 0 56 = some (HH m1) ∧ (∀ t, t < 56 → m1.J 14 t = m.J 50 t) ∧ Fr (cC 14) m m1 := ⟨_, cp_45_9_4 m, fun t ht => by rw [rJ_J, cpy_at _ _ ht], Fr_rJ (Fr_rf _ m) rfl⟩
theorem cx_45_9_5 (m : Mem) : ∃ m1, cpI (HH m) 51 0 15 0 8 = some (HH m1) ∧ (∀ t, t < 8 → m1.I 15 t = m.I 51 t) ∧ Fr (cC 15) m m1 := ⟨_, cp_45_9_5 m, fun t ht => by rw [rI_I, cpy_at _ _ ht], Fr_rI (Fr_rf _ m) rfl⟩
theorem cx_45_9_6 (m : Mem) : ∃ m1, cpI (HH m) 52 0 16 0 8 = some (HH m1) ∧ (∀ t, t < 8 → m1.I 16 t = m.I 52 t) ∧ Fr (cC 16) m m1 := ⟨_, cp_45_9_6 m, fun t ht => by rw [rI_I, cpy_at _ _ ht], Fr_rI (Fr_rf _ m) rfl⟩
theorem cpy_45_9 {m : Mem} {s : Nat → Int32} {M : Nat → Int64} (hs : RS 45 m s M) (h1 : s 1 = 0 ∨ s 1 = 1) : ∃ m1, f_X2_copyFrom 9 45 (HH m) = some (HH m1) ∧ RS 9 m1 s M ∧ Fr (cS 9) m m1 := by
  have eg : gB (m.I 45 1) = some () := if_pos (by rw [hs.2.1]; exact h1)
  obtain ⟨n0, d0⟩ : ∃ n0, n0 = ((m.sI 9 0 (m.I 45 0)).sI 9 1 (m.I 45 1)).sI 9 2 (m.I 45 2) := ⟨_, rfl⟩
  have f0 : Fr (cC 9) m n0 := by rw [d0]; exact Fr_sI (c := cC 9) (Fr_sI (c := cC 9) (Fr_sI (c := cC 9) (Fr_rf (cC 9) m) rfl) rfl) rfl
  obtain ⟨n1, e1, k1, f1⟩ := cx_45_9_0 n0
  obtain ⟨n2, e2, k2, f2⟩ := cx_45_9_1 n1
  obtain ⟨n3, e3, k3, f3⟩ := cx_45_9_2 n2
  obtain ⟨n4, e4, k4, f4⟩ := cx_45_9_3 n3
  obtain ⟨n5, e5, k5, f5⟩ := cx_45_9_4 n4
  obtain ⟨n6, e6, k6, f6⟩ := cx_45_9_5 n5
  obtain ⟨n7, e7, k7, f7⟩ := cx_45_9_6 n6
  refine ⟨n7, ?_, ?_, ?_⟩
  · unfold f_X2_copyFrom
    rw [o_9, Option.bind_some, g_45_0, Option.bind_some, p_9_0, Option.bind_some, g_45_1, Option.bind_some, show (m.sI 9 0 (m.I 45 0)).I 45 1 = m.I 45 1 from sI_of _ _ _ _ (by decide), eg, Option.bind_some, p_9_1, Option.bind_some, g_45_2, Option.bind_some, show ((m.sI 9 0 (m.I 45 0)).sI 9 1 (m.I 45 1)).I 45 2 = m.I 45 2 from (sI_of _ _ _ _ (by decide)).trans (sI_of _ _ _ _ (by decide)), p_9_2, Option.bind_some, ← d0]
    rw [g_45_3, Option.bind_some, g_9_3, Option.bind_some, e1, Option.bind_some, g_45_4, Option.bind_some, g_9_4, Option.bind_some, e2, Option.bind_some, g_45_5, Option.bind_some, g_9_5, Option.bind_some, e3, Option.bind_some, g_45_6, Option.bind_some, g_9_6, Option.bind_some, e4, Option.bind_some, g_45_7, Option.bind_some, g_9_7, Option.bind_some, e5, Option.bind_some, g_45_8, Option.bind_some, g_9_8, Option.bind_some, e6, Option.bind_some, g_45_9, Option.bind_some, g_9_9, Option.bind_some, e7, Option.bind_some]
  · refine ⟨?_, ?_, ?_, fun t ht => ⟨?_, ?_, ?_, ?_, ?_⟩, fun p hp => ⟨?_, ?_⟩⟩
    · rw [(f7.1 9 (by unfold cC; decide)).1, (f6.1 9 (by unfold cC; decide)).1, (f5.1 9 (by unfold cC; decide)).1, (f4.1 9 (by unfold cC; decide)).1, (f3.1 9 (by unfold cC; decide)).1, (f2.1 9 (by unfold cC; decide)).1, (f1.1 9 (by unfold cC; decide)).1, d0]
      exact hs.1
    · rw [(f7.1 9 (by unfold cC; decide)).1, (f6.1 9 (by unfold cC; decide)).1, (f5.1 9 (by unfold cC; decide)).1, (f4.1 9 (by unfold cC; decide)).1, (f3.1 9 (by unfold cC; decide)).1, (f2.1 9 (by unfold cC; decide)).1, (f1.1 9 (by unfold cC; decide)).1, d0]
      exact hs.2.1
    · rw [(f7.1 9 (by unfold cC; decide)).1, (f6.1 9 (by unfold cC; decide)).1, (f5.1 9 (by unfold cC; decide)).1, (f4.1 9 (by unfold cC; decide)).1, (f3.1 9 (by unfold cC; decide)).1, (f2.1 9 (by unfold cC; decide)).1, (f1.1 9 (by unfold cC; decide)).1, d0]
      exact hs.2.2.1
    · show n7.I 10 t = _
      rw [(f7.1 10 (by unfold cC; decide)).1, (f6.1 10 (by unfold cC; decide)).1, (f5.1 10 (by unfold cC; decide)).1, (f4.1 10 (by unfold cC; decide)).1, (f3.1 10 (by unfold cC; decide)).1, (f2.1 10 (by unfold cC; decide)).1, k1 t ht, (f0.1 46 (by unfold cC; decide)).1]
      exact (hs.2.2.2.1 t ht).1
    · show n7.I 11 t = _
      rw [(f7.1 11 (by unfold cC; decide)).1, (f6.1 11 (by unfold cC; decide)).1, (f5.1 11 (by unfold cC; decide)).1, (f4.1 11 (by unfold cC; decide)).1, (f3.1 11 (by unfold cC; decide)).1, k2 t ht, (f1.1 47 (by unfold cC; decide)).1, (f0.1 47 (by unfold cC; decide)).1]
      exact (hs.2.2.2.1 t ht).2.1
    · show n7.I 12 t = _
      rw [(f7.1 12 (by unfold cC; decide)).1, (f6.1 12 (by unfold cC; decide)).1, (f5.1 12 (by unfold cC; decide)).1, (f4.1 12 (by unfold cC; decide)).1, k3 t ht, (f2.1 48 (by unfold cC; decide)).1, (f1.1 48 (by unfold cC; decide)).1, (f0.1 48 (by unfold cC; decide)).1]
      exact (hs.2.2.2.1 t ht).2.2.1
    · show n7.I 13 t = _
      rw [(f7.1 13 (by unfold cC; decide)).1, (f6.1 13 (by unfold cC; decide)).1, (f5.1 13 (by unfold cC; decide)).1, k4 t ht, (f3.1 49 (by unfold cC; decide)).1, (f2.1 49 (by unfold cC; decide)).1, (f1.1 49 (by unfold cC; decide)).1, (f0.1 49 (by unfold cC; decide)).1]
      exact (hs.2.2.2.1 t ht).2.2.2.1
    · show n7.J 14 t = _
      rw [(f7.1 14 (by unfold cC; decide)).2, (f6.1 14 (by unfold cC; decide)).2, k5 t ht, (f4.1 50 (by unfold cC; decide)).2, (f3.1 50 (by unfold cC; decide)).2, (f2.1 50 (by unfold cC; decide)).2, (f1.1 50 (by unfold cC; decide)).2, (f0.1 50 (by unfold cC; decide)).2]
      exact (hs.2.2.2.1 t ht).2.2.2.2
    · show n7.I 15 p = _
      rw [(f7.1 15 (by unfold cC; decide)).1, k6 p hp, (f5.1 51 (by unfold cC; decide)).1, (f4.1 51 (by unfold cC; decide)).1, (f3.1 51 (by unfold cC; decide)).1, (f2.1 51 (by unfold cC; decide)).1, (f1.1 51 (by unfold cC; decide)).1, (f0.1 51 (by unfold cC; decide)).1]
      exact (hs.2.2.2.2 p hp).1
    · show n7.I 16 p = _
      rw [k7 p hp, (f6.1 52 (by unfold cC; decide)).1, (f5.1 52 (by unfold cC; decide)).1, (f4.1 52 (by unfold cC; decide)).1, (f3.1 52 (by unfold cC; decide)).1, (f2.1 52 (by unfold cC; decide)).1, (f1.1 52 (by unfold cC; decide)).1, (f0.1 52 (by unfold cC; decide)).1]
      exact (hs.2.2.2.2 p hp).2
  · exact (Fr_tr (Fr_tr (Fr_tr (Fr_tr (Fr_tr (Fr_tr (Fr_tr (Fr_w (d := cS 9) f0 (fun a h => by unfold cC at h; unfold cS; omega)) (Fr_w (d := cS 9) f1 (fun a h => by unfold cC at h; unfold cS; omega))) (Fr_w (d := cS 9) f2 (fun a h => by unfold cC at h; unfold cS; omega))) (Fr_w (d := cS 9) f3 (fun a h => by unfold cC at h; unfold cS; omega))) (Fr_w (d := cS 9) f4 (fun a h => by unfold cC at h; unfold cS; omega))) (Fr_w (d := cS 9) f5 (fun a h => by unfold cC at h; unfold cS; omega))) (Fr_w (d := cS 9) f6 (fun a h => by unfold cC at h; unfold cS; omega))) (Fr_w (d := cS 9) f7 (fun a h => by unfold cC at h; unfold cS; omega)))
theorem cx_53_9_0 (m : Mem) : ∃ m1, cpI (HH m) 54 0 10 0 56 = some (HH m1) ∧ (∀ t, t < 56 → m1.I 10 t = m.I 54 t) ∧ Fr (cC 10) m m1 := ⟨_, cp_53_9_0 m, fun t ht => by rw [rI_I, cpy_at _ _ ht], Fr_rI (Fr_rf _ m) rfl⟩
theorem cx_53_9_1 (m : Mem) : ∃ m1, cpI (HH m) 55 0 11 0 56 = some (HH m1) ∧ (∀ t, t < 56 → m1.I 11 t = m.I 55 t) ∧ Fr (cC 11) m m1 := ⟨_, cp_53_9_1 m, fun t ht => by rw [rI_I, cpy_at _ _ ht], Fr_rI (Fr_rf _ m) rfl⟩
theorem cx_53_9_2 (m : Mem) : ∃ m1, cpI (HH m) 56 0 12 0 56 = some (HH m1) ∧ (∀ t, t < 56 → m1.I 12 t = m.I 56 t) ∧ Fr (cC 12) m m1 := ⟨_, cp_53_9_2 m, fun t ht => by rw [rI_I, cpy_at _ _ ht], Fr_rI (Fr_rf _ m) rfl⟩
theorem cx_53_9_3 (m : Mem) : ∃ m1, cpI (HH m) 57 0 13 0 56 = some (HH m1) ∧ (∀ t, t < 56 → m1.I 13 t = m.I 57 t) ∧ Fr (cC 13) m m1 := ⟨_, cp_53_9_3 m, fun t ht => by rw [rI_I, cpy_at _ _ ht], Fr_rI (Fr_rf _ m) rfl⟩
theorem cx_53_9_4 (m : Mem) : ∃ m1, cpJ (HH m) 58 0 14 0 56 = some (HH m1) ∧ (∀ t, t < 56 → m1.J 14 t = m.J 58 t) ∧ Fr (cC 14) m m1 := ⟨_, cp_53_9_4 m, fun t ht => by rw [rJ_J, cpy_at _ _ ht], Fr_rJ (Fr_rf _ m) rfl⟩
theorem cx_53_9_5 (m : Mem) : ∃ m1, cpI (HH m) 59 0 15 0 8 = some (HH m1) ∧ (∀ t, t < 8 → m1.I 15 t = m.I 59 t) ∧ Fr (cC 15) m m1 := ⟨_, cp_53_9_5 m, fun t ht => by rw [rI_I, cpy_at _ _ ht], Fr_rI (Fr_rf _ m) rfl⟩
theorem cx_53_9_6 (m : Mem) : ∃ m1, cpI (HH m) 60 0 16 0 8 = some (HH m1) ∧ (∀ t, t < 8 → m1.I 16 t = m.I 60 t) ∧ Fr (cC 16) m m1 := ⟨_, cp_53_9_6 m, fun t ht => by rw [rI_I, cpy_at _ _ ht], Fr_rI (Fr_rf _ m) rfl⟩
theorem cpy_53_9 {m : Mem} {s : Nat → Int32} {M : Nat → Int64} (hs : RS 53 m s M) (h1 : s 1 = 0 ∨ s 1 = 1) : ∃ m1, f_X2_copyFrom 9 53 (HH m) = some (HH m1) ∧ RS 9 m1 s M ∧ Fr (cS 9) m m1 := by
  have eg : gB (m.I 53 1) = some () := if_pos (by rw [hs.2.1]; exact h1)
  obtain ⟨n0, d0⟩ : ∃ n0, n0 = ((m.sI 9 0 (m.I 53 0)).sI 9 1 (m.I 53 1)).sI 9 2 (m.I 53 2) := ⟨_, rfl⟩
  have f0 : Fr (cC 9) m n0 := by rw [d0]; exact Fr_sI (c := cC 9) (Fr_sI (c := cC 9) (Fr_sI (c := cC 9) (Fr_rf (cC 9) m) rfl) rfl) rfl
  obtain ⟨n1, e1, k1, f1⟩ := cx_53_9_0 n0
  obtain ⟨n2, e2, k2, f2⟩ := cx_53_9_1 n1
  obtain ⟨n3, e3, k3, f3⟩ := cx_53_9_2 n2
  obtain ⟨n4, e4, k4, f4⟩ := cx_53_9_3 n3
  obtain ⟨n5, e5, k5, f5⟩ := cx_53_9_4 n4
  obtain ⟨n6, e6, k6, f6⟩ := cx_53_9_5 n5
  obtain ⟨n7, e7, k7, f7⟩ := cx_53_9_6 n6
  refine ⟨n7, ?_, ?_, ?_⟩
  · unfold f_X2_copyFrom
    rw [o_9, Option.bind_some, g_53_0, Option.bind_some, p_9_0, Option.bind_some, g_53_1, Option.bind_some, show (m.sI 9 0 (m.I 53 0)).I 53 1 = m.I 53 1 from sI_of _ _ _ _ (by decide), eg, Option.bind_some, p_9_1, Option.bind_some, g_53_2, Option.bind_some, show ((m.sI 9 0 (m.I 53 0)).sI 9 1 (m.I 53 1)).I 53 2 = m.I 53 2 from (sI_of _ _ _ _ (by decide)).trans (sI_of _ _ _ _ (by decide)), p_9_2, Option.bind_some, ← d0]
    rw [g_53_3, Option.bind_some, g_9_3, Option.bind_some, e1, Option.bind_some, g_53_4, Option.bind_some, g_9_4, Option.bind_some, e2, Option.bind_some, g_53_5, Option.bind_some, g_9_5, Option.bind_some, e3, Option.bind_some, g_53_6, Option.bind_some, g_9_6, Option.bind_some, e4, Option.bind_some, g_53_7, Option.bind_some, g_9_7, Option.bind_some, e5, Option.bind_some, g_53_8, Option.bind_some, g_9_8, Option.bind_some, e6, Option.bind_some, g_53_9, Option.bind_some, g_9_9, Option.bind_some, e7, Option.bind_some]
  · refine ⟨?_, ?_, ?_, fun t ht => ⟨?_, ?_, ?_, ?_, ?_⟩, fun p hp => ⟨?_, ?_⟩⟩
    · rw [(f7.1 9 (by unfold cC; decide)).1, (f6.1 9 (by unfold cC; decide)).1, (f5.1 9 (by unfold cC; decide)).1, (f4.1 9 (by unfold cC; decide)).1, (f3.1 9 (by unfold cC; decide)).1, (f2.1 9 (by unfold cC; decide)).1, (f1.1 9 (by unfold cC; decide)).1, d0]
      exact hs.1
    · rw [(f7.1 9 (by unfold cC; decide)).1, (f6.1 9 (by unfold cC; decide)).1, (f5.1 9 (by unfold cC; decide)).1, (f4.1 9 (by unfold cC; decide)).1, (f3.1 9 (by unfold cC; decide)).1, (f2.1 9 (by unfold cC; decide)).1, (f1.1 9 (by unfold cC; decide)).1, d0]
      exact hs.2.1
    · rw [(f7.1 9 (by unfold cC; decide)).1, (f6.1 9 (by unfold cC; decide)).1, (f5.1 9 (by unfold cC; decide)).1, (f4.1 9 (by unfold cC; decide)).1, (f3.1 9 (by unfold cC; decide)).1, (f2.1 9 (by unfold cC; decide)).1, (f1.1 9 (by unfold cC; decide)).1, d0]
      exact hs.2.2.1
    · show n7.I 10 t = _
      rw [(f7.1 10 (by unfold cC; decide)).1, (f6.1 10 (by unfold cC; decide)).1, (f5.1 10 (by unfold cC; decide)).1, (f4.1 10 (by unfold cC; decide)).1, (f3.1 10 (by unfold cC; decide)).1, (f2.1 10 (by unfold cC; decide)).1, k1 t ht, (f0.1 54 (by unfold cC; decide)).1]
      exact (hs.2.2.2.1 t ht).1
    · show n7.I 11 t = _
      rw [(f7.1 11 (by unfold cC; decide)).1, (f6.1 11 (by unfold cC; decide)).1, (f5.1 11 (by unfold cC; decide)).1, (f4.1 11 (by unfold cC; decide)).1, (f3.1 11 (by unfold cC; decide)).1, k2 t ht, (f1.1 55 (by unfold cC; decide)).1, (f0.1 55 (by unfold cC; decide)).1]
      exact (hs.2.2.2.1 t ht).2.1
    · show n7.I 12 t = _
      rw [(f7.1 12 (by unfold cC; decide)).1, (f6.1 12 (by unfold cC; decide)).1, (f5.1 12 (by unfold cC; decide)).1, (f4.1 12 (by unfold cC; decide)).1, k3 t ht, (f2.1 56 (by unfold cC; decide)).1, (f1.1 56 (by unfold cC; decide)).1, (f0.1 56 (by unfold cC; decide)).1]
      exact (hs.2.2.2.1 t ht).2.2.1
    · show n7.I 13 t = _
      rw [(f7.1 13 (by unfold cC; decide)).1, (f6.1 13 (by unfold cC; decide)).1, (f5.1 13 (by unfold cC; decide)).1, k4 t ht, (f3.1 57 (by unfold cC; decide)).1, (f2.1 57 (by unfold cC; decide)).1, (f1.1 57 (by unfold cC; decide)).1, (f0.1 57 (by unfold cC; decide)).1]
      exact (hs.2.2.2.1 t ht).2.2.2.1
    · show n7.J 14 t = _
      rw [(f7.1 14 (by unfold cC; decide)).2, (f6.1 14 (by unfold cC; decide)).2, k5 t ht, (f4.1 58 (by unfold cC; decide)).2, (f3.1 58 (by unfold cC; decide)).2, (f2.1 58 (by unfold cC; decide)).2, (f1.1 58 (by unfold cC; decide)).2, (f0.1 58 (by unfold cC; decide)).2]
      exact (hs.2.2.2.1 t ht).2.2.2.2
    · show n7.I 15 p = _
      rw [(f7.1 15 (by unfold cC; decide)).1, k6 p hp, (f5.1 59 (by unfold cC; decide)).1, (f4.1 59 (by unfold cC; decide)).1, (f3.1 59 (by unfold cC; decide)).1, (f2.1 59 (by unfold cC; decide)).1, (f1.1 59 (by unfold cC; decide)).1, (f0.1 59 (by unfold cC; decide)).1]
      exact (hs.2.2.2.2 p hp).1
    · show n7.I 16 p = _
      rw [k7 p hp, (f6.1 60 (by unfold cC; decide)).1, (f5.1 60 (by unfold cC; decide)).1, (f4.1 60 (by unfold cC; decide)).1, (f3.1 60 (by unfold cC; decide)).1, (f2.1 60 (by unfold cC; decide)).1, (f1.1 60 (by unfold cC; decide)).1, (f0.1 60 (by unfold cC; decide)).1]
      exact (hs.2.2.2.2 p hp).2
  · exact (Fr_tr (Fr_tr (Fr_tr (Fr_tr (Fr_tr (Fr_tr (Fr_tr (Fr_w (d := cS 9) f0 (fun a h => by unfold cC at h; unfold cS; omega)) (Fr_w (d := cS 9) f1 (fun a h => by unfold cC at h; unfold cS; omega))) (Fr_w (d := cS 9) f2 (fun a h => by unfold cC at h; unfold cS; omega))) (Fr_w (d := cS 9) f3 (fun a h => by unfold cC at h; unfold cS; omega))) (Fr_w (d := cS 9) f4 (fun a h => by unfold cC at h; unfold cS; omega))) (Fr_w (d := cS 9) f5 (fun a h => by unfold cC at h; unfold cS; omega))) (Fr_w (d := cS 9) f6 (fun a h => by unfold cC at h; unfold cS; omega))) (Fr_w (d := cS 9) f7 (fun a h => by unfold cC at h; unfold cS; omega)))
