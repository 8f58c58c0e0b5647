/-! the memory: what the ints, longs and saved states of the run are; the heap's shape is fixed -/
abbrev Mem : Type := (Nat → Nat → Int32) × (Nat → Nat → Int64) × (Nat → Nat)
def Mem.I (m : Mem) : Nat → Nat → Int32 := m.1
def Mem.J (m : Mem) : Nat → Nat → Int64 := m.2.1
def Mem.V (m : Mem) : Nat → Nat := m.2.2
def Mem.sI (m : Mem) (a k : Nat) (x : Int32) : Mem := (fun b => if b = a then upd (m.I a) k x else m.I b, m.J, m.V)
def Mem.sJ (m : Mem) (a k : Nat) (x : Int64) : Mem := (m.I, fun b => if b = a then vp_updL (m.J a) k x else m.J b, m.V)
def Mem.sV (m : Mem) (k : Nat) (x : Nat) : Mem := (m.I, m.J, fun j => if j = k then x else m.V j)
/-- a whole row of ints, or of longs -/
def Mem.rI (m : Mem) (a : Nat) (f : Nat → Int32) : Mem := (fun b => if b = a then f else m.I b, m.J, m.V)
def Mem.rJ (m : Mem) (a : Nat) (f : Nat → Int64) : Mem := (m.I, fun b => if b = a then f else m.J b, m.V)
def HH (m : Mem) : Hp := [.inr (3, [.ref 1, .ref 9, .ref 17, .ref 21, .int (m.I 0 4), .ref 22, .ref 23, .ref 24, .ref 25, .ref 26, .ref 27, .ref 28]),
  .inr (0, [.int (m.I 1 0), .int (m.I 1 1), .int (m.I 1 2), .ref 2, .ref 3, .ref 4, .ref 5, .ref 6, .ref 7, .ref 8]),
  .inl (0, (168, .inl (m.I 2))),
  .inl (0, (512, .inl (m.I 3))),
  .inl (0, (512, .inl (m.I 4))),
  .inl (0, (1400, .inl (m.I 5))),
  .inl (0, (1680, .inl (m.I 6))),
  .inl (0, (840, .inl (m.I 7))),
  .inl (1, (280, .inr (.inl (m.J 8)))),
  .inr (2, [.int (m.I 9 0), .int (m.I 9 1), .int (m.I 9 2), .ref 10, .ref 11, .ref 12, .ref 13, .ref 14, .ref 15, .ref 16]),
  .inl (0, (56, .inl (m.I 10))),
  .inl (0, (56, .inl (m.I 11))),
  .inl (0, (56, .inl (m.I 12))),
  .inl (0, (56, .inl (m.I 13))),
  .inl (1, (56, .inr (.inl (m.J 14)))),
  .inl (0, (8, .inl (m.I 15))),
  .inl (0, (8, .inl (m.I 16))),
  .inr (1, [.ref 18, .int (m.I 17 1), .ref 19, .ref 20, .int (m.I 17 4)]),
  .inl (0, (120, .inl (m.I 18))),
  .inl (0, (120, .inl (m.I 19))),
  .inl (0, (360, .inl (m.I 20))),
  .inl (2, (4, .inr (.inr (.inr (.inr fun i => if i < 4 then some (m.V i) else none))))),
  .inl (0, (56, .inl (m.I 22))),
  .inl (0, (10, .inl (m.I 23))),
  .inl (0, (28, .inl (m.I 24))),
  .inl (0, (8, .inl (m.I 25))),
  .inl (0, (8, .inl (m.I 26))),
  .inl (0, (8, .inl (m.I 27))),
  .inl (0, (8, .inl (m.I 28))),
  .inr (2, [.int (m.I 29 0), .int (m.I 29 1), .int (m.I 29 2), .ref 30, .ref 31, .ref 32, .ref 33, .ref 34, .ref 35, .ref 36]),
  .inl (0, (56, .inl (m.I 30))),
  .inl (0, (56, .inl (m.I 31))),
  .inl (0, (56, .inl (m.I 32))),
  .inl (0, (56, .inl (m.I 33))),
  .inl (1, (56, .inr (.inl (m.J 34)))),
  .inl (0, (8, .inl (m.I 35))),
  .inl (0, (8, .inl (m.I 36))),
  .inr (2, [.int (m.I 37 0), .int (m.I 37 1), .int (m.I 37 2), .ref 38, .ref 39, .ref 40, .ref 41, .ref 42, .ref 43, .ref 44]),
  .inl (0, (56, .inl (m.I 38))),
  .inl (0, (56, .inl (m.I 39))),
  .inl (0, (56, .inl (m.I 40))),
  .inl (0, (56, .inl (m.I 41))),
  .inl (1, (56, .inr (.inl (m.J 42)))),
  .inl (0, (8, .inl (m.I 43))),
  .inl (0, (8, .inl (m.I 44))),
  .inr (2, [.int (m.I 45 0), .int (m.I 45 1), .int (m.I 45 2), .ref 46, .ref 47, .ref 48, .ref 49, .ref 50, .ref 51, .ref 52]),
  .inl (0, (56, .inl (m.I 46))),
  .inl (0, (56, .inl (m.I 47))),
  .inl (0, (56, .inl (m.I 48))),
  .inl (0, (56, .inl (m.I 49))),
  .inl (1, (56, .inr (.inl (m.J 50)))),
  .inl (0, (8, .inl (m.I 51))),
  .inl (0, (8, .inl (m.I 52))),
  .inr (2, [.int (m.I 53 0), .int (m.I 53 1), .int (m.I 53 2), .ref 54, .ref 55, .ref 56, .ref 57, .ref 58, .ref 59, .ref 60]),
  .inl (0, (56, .inl (m.I 54))),
  .inl (0, (56, .inl (m.I 55))),
  .inl (0, (56, .inl (m.I 56))),
  .inl (0, (56, .inl (m.I 57))),
  .inl (1, (56, .inr (.inl (m.J 58)))),
  .inl (0, (8, .inl (m.I 59))),
  .inl (0, (8, .inl (m.I 60))),
  .inr (4, [.ref 62, .ref 63, .ref 64, .int (m.I 61 3), .ref 65, .int (m.I 61 5), .int (m.I 61 6), .ref 66, .ref 67, .int (m.I 61 9), .ref 68, .int (m.I 61 11), .int (m.I 61 12), .ref 69, .ref 70, .ref 71, .ref 72, .ref 73, .ref 74, .ref 75, .int (m.I 61 20), .int (m.I 61 21), .ref 76, .long (m.J 61 23)]),
  .inl (0, (243, .inl (m.I 62))),
  .inl (0, (972, .inl (m.I 63))),
  .inl (0, (243, .inl (m.I 64))),
  .inl (0, (120, .inl (m.I 65))),
  .inl (0, (168, .inl (m.I 66))),
  .inl (0, (512, .inl (m.I 67))),
  .inl (0, (1400, .inl (m.I 68))),
  .inl (0, (6, .inl (m.I 69))),
  .inl (0, (6, .inl (m.I 70))),
  .inl (0, (56, .inl (m.I 71))),
  .inl (1, (56, .inr (.inl (m.J 72)))),
  .inl (0, (10, .inl (m.I 73))),
  .inl (0, (28, .inl (m.I 74))),
  .inl (0, (16, .inl (m.I 75))),
  .inl (0, (3, .inl (m.I 76))),
  .inl (1, (1, .inr (.inl (m.J 77))))]
theorem vp_ok {i n : Nat} (h : i < n) (hn : n < 2 ^ 31) : ¬ (nI i < 0 ∨ n ≤ (nI i).toNatClampNeg) := nI_in h hn
theorem aI_g {h : Hp} {a n : Nat} {f : Nat → Int32} (e : h[a]? = some (.inl (0, (n, .inl f)))) (hn : n < 2 ^ 31) {i : Nat} (hi : i < n) : aI h a (nI i) = some (f i) := by
  unfold aI
  rw [e]
  simp only [nI_clamp (Nat.lt_trans hi hn)]
  exact if_pos ⟨trivial, by have := nI_in hi hn; rwa [nI_clamp (Nat.lt_trans hi hn)] at this⟩
theorem aJ_g {h : Hp} {a n : Nat} {f : Nat → Int64} (e : h[a]? = some (.inl (1, (n, .inr (.inl f))))) (hn : n < 2 ^ 31) {i : Nat} (hi : i < n) : aJ h a (nI i) = some (f i) := by
  unfold aJ
  rw [e]
  simp only [nI_clamp (Nat.lt_trans hi hn)]
  exact if_pos ⟨trivial, by have := nI_in hi hn; rwa [nI_clamp (Nat.lt_trans hi hn)] at this⟩
theorem wI_g {h : Hp} {a n : Nat} {f : Nat → Int32} (e : h[a]? = some (.inl (0, (n, .inl f)))) (hn : n < 2 ^ 31) {i : Nat} (hi : i < n) (x : Int32) : wI h a (nI i) x = some (h.set a (.inl (0, (n, .inl (upd f i x))))) := by
  unfold wI
  rw [e]
  simp only [nI_clamp (Nat.lt_trans hi hn)]
  exact if_pos ⟨trivial, by have := nI_in hi hn; rwa [nI_clamp (Nat.lt_trans hi hn)] at this⟩
theorem wJ_g {h : Hp} {a n : Nat} {f : Nat → Int64} (e : h[a]? = some (.inl (1, (n, .inr (.inl f))))) (hn : n < 2 ^ 31) {i : Nat} (hi : i < n) (x : Int64) : wJ h a (nI i) x = some (h.set a (.inl (1, (n, .inr (.inl (vp_updL f i x)))))) := by
  unfold wJ
  rw [e]
  simp only [nI_clamp (Nat.lt_trans hi hn)]
  exact if_pos ⟨trivial, by have := nI_in hi hn; rwa [nI_clamp (Nat.lt_trans hi hn)] at this⟩
section MemRows
variable (m : Mem)
theorem o_0 : rc 3 (HH m) 0 = some () := rfl
theorem g_0_0 : fR 3 0 (HH m) 0 = some 1 := rfl
theorem g_0_1 : fR 3 1 (HH m) 0 = some 9 := rfl
theorem g_0_2 : fR 3 2 (HH m) 0 = some 17 := rfl
theorem g_0_3 : fR 3 3 (HH m) 0 = some 21 := rfl
theorem g_0_4 : fI 3 4 (HH m) 0 = some (m.I 0 4) := rfl
theorem p_0_4 (x : Int32) : sF 3 4 (.int x) (HH m) 0 = some (HH (m.sI 0 4 x)) := rfl
theorem g_0_5 : fR 3 5 (HH m) 0 = some 22 := rfl
theorem g_0_6 : fR 3 6 (HH m) 0 = some 23 := rfl
theorem g_0_7 : fR 3 7 (HH m) 0 = some 24 := rfl
theorem g_0_8 : fR 3 8 (HH m) 0 = some 25 := rfl
theorem g_0_9 : fR 3 9 (HH m) 0 = some 26 := rfl
theorem g_0_10 : fR 3 10 (HH m) 0 = some 27 := rfl
theorem g_0_11 : fR 3 11 (HH m) 0 = some 28 := rfl
theorem o_1 : rc 0 (HH m) 1 = some () := rfl
theorem g_1_0 : fI 0 0 (HH m) 1 = some (m.I 1 0) := rfl
theorem p_1_0 (x : Int32) : sF 0 0 (.int x) (HH m) 1 = some (HH (m.sI 1 0 x)) := rfl
theorem g_1_1 : fI 0 1 (HH m) 1 = some (m.I 1 1) := rfl
theorem p_1_1 (x : Int32) : sF 0 1 (.int x) (HH m) 1 = some (HH (m.sI 1 1 x)) := rfl
theorem g_1_2 : fI 0 2 (HH m) 1 = some (m.I 1 2) := rfl
theorem p_1_2 (x : Int32) : sF 0 2 (.int x) (HH m) 1 = some (HH (m.sI 1 2 x)) := rfl
theorem g_1_3 : fR 0 3 (HH m) 1 = some 2 := rfl
theorem g_1_4 : fR 0 4 (HH m) 1 = some 3 := rfl
theorem g_1_5 : fR 0 5 (HH m) 1 = some 4 := rfl
theorem g_1_6 : fR 0 6 (HH m) 1 = some 5 := rfl
theorem g_1_7 : fR 0 7 (HH m) 1 = some 6 := rfl
theorem g_1_8 : fR 0 8 (HH m) 1 = some 7 := rfl
theorem g_1_9 : fR 0 9 (HH m) 1 = some 8 := rfl
theorem r_2 {i : Nat} (hi : i < 168) : aI (HH m) 2 (nI i) = some (m.I 2 i) := aI_g (h := HH m) (a := 2) rfl (by decide) hi
theorem w_2 {i : Nat} (hi : i < 168) (x : Int32) : wI (HH m) 2 (nI i) x = some (HH (m.sI 2 i x)) := wI_g (h := HH m) (a := 2) rfl (by decide) hi x
theorem r_3 {i : Nat} (hi : i < 512) : aI (HH m) 3 (nI i) = some (m.I 3 i) := aI_g (h := HH m) (a := 3) rfl (by decide) hi
theorem w_3 {i : Nat} (hi : i < 512) (x : Int32) : wI (HH m) 3 (nI i) x = some (HH (m.sI 3 i x)) := wI_g (h := HH m) (a := 3) rfl (by decide) hi x
theorem r_4 {i : Nat} (hi : i < 512) : aI (HH m) 4 (nI i) = some (m.I 4 i) := aI_g (h := HH m) (a := 4) rfl (by decide) hi
theorem w_4 {i : Nat} (hi : i < 512) (x : Int32) : wI (HH m) 4 (nI i) x = some (HH (m.sI 4 i x)) := wI_g (h := HH m) (a := 4) rfl (by decide) hi x
theorem r_5 {i : Nat} (hi : i < 1400) : aI (HH m) 5 (nI i) = some (m.I 5 i) := aI_g (h := HH m) (a := 5) rfl (by decide) hi
theorem w_5 {i : Nat} (hi : i < 1400) (x : Int32) : wI (HH m) 5 (nI i) x = some (HH (m.sI 5 i x)) := wI_g (h := HH m) (a := 5) rfl (by decide) hi x
theorem r_6 {i : Nat} (hi : i < 1680) : aI (HH m) 6 (nI i) = some (m.I 6 i) := aI_g (h := HH m) (a := 6) rfl (by decide) hi
theorem w_6 {i : Nat} (hi : i < 1680) (x : Int32) : wI (HH m) 6 (nI i) x = some (HH (m.sI 6 i x)) := wI_g (h := HH m) (a := 6) rfl (by decide) hi x
theorem r_7 {i : Nat} (hi : i < 840) : aI (HH m) 7 (nI i) = some (m.I 7 i) := aI_g (h := HH m) (a := 7) rfl (by decide) hi
theorem w_7 {i : Nat} (hi : i < 840) (x : Int32) : wI (HH m) 7 (nI i) x = some (HH (m.sI 7 i x)) := wI_g (h := HH m) (a := 7) rfl (by decide) hi x
theorem r_8 {i : Nat} (hi : i < 280) : aJ (HH m) 8 (nI i) = some (m.J 8 i) := aJ_g (h := HH m) (a := 8) rfl (by decide) hi
theorem w_8 {i : Nat} (hi : i < 280) (x : Int64) : wJ (HH m) 8 (nI i) x = some (HH (m.sJ 8 i x)) := wJ_g (h := HH m) (a := 8) rfl (by decide) hi x
theorem o_9 : rc 2 (HH m) 9 = some () := rfl
theorem g_9_0 : fI 2 0 (HH m) 9 = some (m.I 9 0) := rfl
theorem p_9_0 (x : Int32) : sF 2 0 (.int x) (HH m) 9 = some (HH (m.sI 9 0 x)) := rfl
theorem g_9_1 : fI 2 1 (HH m) 9 = some (m.I 9 1) := rfl
theorem p_9_1 (x : Int32) : sF 2 1 (.int x) (HH m) 9 = some (HH (m.sI 9 1 x)) := rfl
theorem g_9_2 : fI 2 2 (HH m) 9 = some (m.I 9 2) := rfl
theorem p_9_2 (x : Int32) : sF 2 2 (.int x) (HH m) 9 = some (HH (m.sI 9 2 x)) := rfl
theorem g_9_3 : fR 2 3 (HH m) 9 = some 10 := rfl
theorem g_9_4 : fR 2 4 (HH m) 9 = some 11 := rfl
theorem g_9_5 : fR 2 5 (HH m) 9 = some 12 := rfl
theorem g_9_6 : fR 2 6 (HH m) 9 = some 13 := rfl
theorem g_9_7 : fR 2 7 (HH m) 9 = some 14 := rfl
theorem g_9_8 : fR 2 8 (HH m) 9 = some 15 := rfl
theorem g_9_9 : fR 2 9 (HH m) 9 = some 16 := rfl
theorem r_10 {i : Nat} (hi : i < 56) : aI (HH m) 10 (nI i) = some (m.I 10 i) := aI_g (h := HH m) (a := 10) rfl (by decide) hi
theorem w_10 {i : Nat} (hi : i < 56) (x : Int32) : wI (HH m) 10 (nI i) x = some (HH (m.sI 10 i x)) := wI_g (h := HH m) (a := 10) rfl (by decide) hi x
theorem r_11 {i : Nat} (hi : i < 56) : aI (HH m) 11 (nI i) = some (m.I 11 i) := aI_g (h := HH m) (a := 11) rfl (by decide) hi
theorem w_11 {i : Nat} (hi : i < 56) (x : Int32) : wI (HH m) 11 (nI i) x = some (HH (m.sI 11 i x)) := wI_g (h := HH m) (a := 11) rfl (by decide) hi x
theorem r_12 {i : Nat} (hi : i < 56) : aI (HH m) 12 (nI i) = some (m.I 12 i) := aI_g (h := HH m) (a := 12) rfl (by decide) hi
theorem w_12 {i : Nat} (hi : i < 56) (x : Int32) : wI (HH m) 12 (nI i) x = some (HH (m.sI 12 i x)) := wI_g (h := HH m) (a := 12) rfl (by decide) hi x
theorem r_13 {i : Nat} (hi : i < 56) : aI (HH m) 13 (nI i) = some (m.I 13 i) := aI_g (h := HH m) (a := 13) rfl (by decide) hi
theorem w_13 {i : Nat} (hi : i < 56) (x : Int32) : wI (HH m) 13 (nI i) x = some (HH (m.sI 13 i x)) := wI_g (h := HH m) (a := 13) rfl (by decide) hi x
theorem r_14 {i : Nat} (hi : i < 56) : aJ (HH m) 14 (nI i) = some (m.J 14 i) := aJ_g (h := HH m) (a := 14) rfl (by decide) hi
theorem w_14 {i : Nat} (hi : i < 56) (x : Int64) : wJ (HH m) 14 (nI i) x = some (HH (m.sJ 14 i x)) := wJ_g (h := HH m) (a := 14) rfl (by decide) hi x
theorem r_15 {i : Nat} (hi : i < 8) : aI (HH m) 15 (nI i) = some (m.I 15 i) := aI_g (h := HH m) (a := 15) rfl (by decide) hi
theorem w_15 {i : Nat} (hi : i < 8) (x : Int32) : wI (HH m) 15 (nI i) x = some (HH (m.sI 15 i x)) := wI_g (h := HH m) (a := 15) rfl (by decide) hi x
theorem r_16 {i : Nat} (hi : i < 8) : aI (HH m) 16 (nI i) = some (m.I 16 i) := aI_g (h := HH m) (a := 16) rfl (by decide) hi
theorem w_16 {i : Nat} (hi : i < 8) (x : Int32) : wI (HH m) 16 (nI i) x = some (HH (m.sI 16 i x)) := wI_g (h := HH m) (a := 16) rfl (by decide) hi x
theorem o_17 : rc 1 (HH m) 17 = some () := rfl
theorem g_17_0 : fR 1 0 (HH m) 17 = some 18 := rfl
theorem g_17_1 : fI 1 1 (HH m) 17 = some (m.I 17 1) := rfl
theorem p_17_1 (x : Int32) : sF 1 1 (.int x) (HH m) 17 = some (HH (m.sI 17 1 x)) := rfl
theorem g_17_2 : fR 1 2 (HH m) 17 = some 19 := rfl
theorem g_17_3 : fR 1 3 (HH m) 17 = some 20 := rfl
theorem g_17_4 : fI 1 4 (HH m) 17 = some (m.I 17 4) := rfl
theorem p_17_4 (x : Int32) : sF 1 4 (.int x) (HH m) 17 = some (HH (m.sI 17 4 x)) := rfl
theorem r_18 {i : Nat} (hi : i < 120) : aI (HH m) 18 (nI i) = some (m.I 18 i) := aI_g (h := HH m) (a := 18) rfl (by decide) hi
theorem w_18 {i : Nat} (hi : i < 120) (x : Int32) : wI (HH m) 18 (nI i) x = some (HH (m.sI 18 i x)) := wI_g (h := HH m) (a := 18) rfl (by decide) hi x
theorem r_19 {i : Nat} (hi : i < 120) : aI (HH m) 19 (nI i) = some (m.I 19 i) := aI_g (h := HH m) (a := 19) rfl (by decide) hi
theorem w_19 {i : Nat} (hi : i < 120) (x : Int32) : wI (HH m) 19 (nI i) x = some (HH (m.sI 19 i x)) := wI_g (h := HH m) (a := 19) rfl (by decide) hi x
theorem r_20 {i : Nat} (hi : i < 360) : aI (HH m) 20 (nI i) = some (m.I 20 i) := aI_g (h := HH m) (a := 20) rfl (by decide) hi
theorem w_20 {i : Nat} (hi : i < 360) (x : Int32) : wI (HH m) 20 (nI i) x = some (HH (m.sI 20 i x)) := wI_g (h := HH m) (a := 20) rfl (by decide) hi x
theorem r_22 {i : Nat} (hi : i < 56) : aI (HH m) 22 (nI i) = some (m.I 22 i) := aI_g (h := HH m) (a := 22) rfl (by decide) hi
theorem w_22 {i : Nat} (hi : i < 56) (x : Int32) : wI (HH m) 22 (nI i) x = some (HH (m.sI 22 i x)) := wI_g (h := HH m) (a := 22) rfl (by decide) hi x
theorem r_23 {i : Nat} (hi : i < 10) : aI (HH m) 23 (nI i) = some (m.I 23 i) := aI_g (h := HH m) (a := 23) rfl (by decide) hi
theorem w_23 {i : Nat} (hi : i < 10) (x : Int32) : wI (HH m) 23 (nI i) x = some (HH (m.sI 23 i x)) := wI_g (h := HH m) (a := 23) rfl (by decide) hi x
theorem r_24 {i : Nat} (hi : i < 28) : aI (HH m) 24 (nI i) = some (m.I 24 i) := aI_g (h := HH m) (a := 24) rfl (by decide) hi
theorem w_24 {i : Nat} (hi : i < 28) (x : Int32) : wI (HH m) 24 (nI i) x = some (HH (m.sI 24 i x)) := wI_g (h := HH m) (a := 24) rfl (by decide) hi x
theorem r_25 {i : Nat} (hi : i < 8) : aI (HH m) 25 (nI i) = some (m.I 25 i) := aI_g (h := HH m) (a := 25) rfl (by decide) hi
theorem w_25 {i : Nat} (hi : i < 8) (x : Int32) : wI (HH m) 25 (nI i) x = some (HH (m.sI 25 i x)) := wI_g (h := HH m) (a := 25) rfl (by decide) hi x
theorem r_26 {i : Nat} (hi : i < 8) : aI (HH m) 26 (nI i) = some (m.I 26 i) := aI_g (h := HH m) (a := 26) rfl (by decide) hi
theorem w_26 {i : Nat} (hi : i < 8) (x : Int32) : wI (HH m) 26 (nI i) x = some (HH (m.sI 26 i x)) := wI_g (h := HH m) (a := 26) rfl (by decide) hi x
theorem r_27 {i : Nat} (hi : i < 8) : aI (HH m) 27 (nI i) = some (m.I 27 i) := aI_g (h := HH m) (a := 27) rfl (by decide) hi
theorem w_27 {i : Nat} (hi : i < 8) (x : Int32) : wI (HH m) 27 (nI i) x = some (HH (m.sI 27 i x)) := wI_g (h := HH m) (a := 27) rfl (by decide) hi x
theorem r_28 {i : Nat} (hi : i < 8) : aI (HH m) 28 (nI i) = some (m.I 28 i) := aI_g (h := HH m) (a := 28) rfl (by decide) hi
theorem w_28 {i : Nat} (hi : i < 8) (x : Int32) : wI (HH m) 28 (nI i) x = some (HH (m.sI 28 i x)) := wI_g (h := HH m) (a := 28) rfl (by decide) hi x
theorem o_29 : rc 2 (HH m) 29 = some () := rfl
theorem g_29_0 : fI 2 0 (HH m) 29 = some (m.I 29 0) := rfl
theorem p_29_0 (x : Int32) : sF 2 0 (.int x) (HH m) 29 = some (HH (m.sI 29 0 x)) := rfl
theorem g_29_1 : fI 2 1 (HH m) 29 = some (m.I 29 1) := rfl
theorem p_29_1 (x : Int32) : sF 2 1 (.int x) (HH m) 29 = some (HH (m.sI 29 1 x)) := rfl
theorem g_29_2 : fI 2 2 (HH m) 29 = some (m.I 29 2) := rfl
theorem p_29_2 (x : Int32) : sF 2 2 (.int x) (HH m) 29 = some (HH (m.sI 29 2 x)) := rfl
theorem g_29_3 : fR 2 3 (HH m) 29 = some 30 := rfl
theorem g_29_4 : fR 2 4 (HH m) 29 = some 31 := rfl
theorem g_29_5 : fR 2 5 (HH m) 29 = some 32 := rfl
theorem g_29_6 : fR 2 6 (HH m) 29 = some 33 := rfl
theorem g_29_7 : fR 2 7 (HH m) 29 = some 34 := rfl
theorem g_29_8 : fR 2 8 (HH m) 29 = some 35 := rfl
theorem g_29_9 : fR 2 9 (HH m) 29 = some 36 := rfl
theorem r_30 {i : Nat} (hi : i < 56) : aI (HH m) 30 (nI i) = some (m.I 30 i) := aI_g (h := HH m) (a := 30) rfl (by decide) hi
theorem w_30 {i : Nat} (hi : i < 56) (x : Int32) : wI (HH m) 30 (nI i) x = some (HH (m.sI 30 i x)) := wI_g (h := HH m) (a := 30) rfl (by decide) hi x
theorem r_31 {i : Nat} (hi : i < 56) : aI (HH m) 31 (nI i) = some (m.I 31 i) := aI_g (h := HH m) (a := 31) rfl (by decide) hi
theorem w_31 {i : Nat} (hi : i < 56) (x : Int32) : wI (HH m) 31 (nI i) x = some (HH (m.sI 31 i x)) := wI_g (h := HH m) (a := 31) rfl (by decide) hi x
theorem r_32 {i : Nat} (hi : i < 56) : aI (HH m) 32 (nI i) = some (m.I 32 i) := aI_g (h := HH m) (a := 32) rfl (by decide) hi
theorem w_32 {i : Nat} (hi : i < 56) (x : Int32) : wI (HH m) 32 (nI i) x = some (HH (m.sI 32 i x)) := wI_g (h := HH m) (a := 32) rfl (by decide) hi x
theorem r_33 {i : Nat} (hi : i < 56) : aI (HH m) 33 (nI i) = some (m.I 33 i) := aI_g (h := HH m) (a := 33) rfl (by decide) hi
theorem w_33 {i : Nat} (hi : i < 56) (x : Int32) : wI (HH m) 33 (nI i) x = some (HH (m.sI 33 i x)) := wI_g (h := HH m) (a := 33) rfl (by decide) hi x
theorem r_34 {i : Nat} (hi : i < 56) : aJ (HH m) 34 (nI i) = some (m.J 34 i) := aJ_g (h := HH m) (a := 34) rfl (by decide) hi
theorem w_34 {i : Nat} (hi : i < 56) (x : Int64) : wJ (HH m) 34 (nI i) x = some (HH (m.sJ 34 i x)) := wJ_g (h := HH m) (a := 34) rfl (by decide) hi x
theorem r_35 {i : Nat} (hi : i < 8) : aI (HH m) 35 (nI i) = some (m.I 35 i) := aI_g (h := HH m) (a := 35) rfl (by decide) hi
theorem w_35 {i : Nat} (hi : i < 8) (x : Int32) : wI (HH m) 35 (nI i) x = some (HH (m.sI 35 i x)) := wI_g (h := HH m) (a := 35) rfl (by decide) hi x
theorem r_36 {i : Nat} (hi : i < 8) : aI (HH m) 36 (nI i) = some (m.I 36 i) := aI_g (h := HH m) (a := 36) rfl (by decide) hi
theorem w_36 {i : Nat} (hi : i < 8) (x : Int32) : wI (HH m) 36 (nI i) x = some (HH (m.sI 36 i x)) := wI_g (h := HH m) (a := 36) rfl (by decide) hi x
theorem o_37 : rc 2 (HH m) 37 = some () := rfl
theorem g_37_0 : fI 2 0 (HH m) 37 = some (m.I 37 0) := rfl
theorem p_37_0 (x : Int32) : sF 2 0 (.int x) (HH m) 37 = some (HH (m.sI 37 0 x)) := rfl
theorem g_37_1 : fI 2 1 (HH m) 37 = some (m.I 37 1) := rfl
theorem p_37_1 (x : Int32) : sF 2 1 (.int x) (HH m) 37 = some (HH (m.sI 37 1 x)) := rfl
theorem g_37_2 : fI 2 2 (HH m) 37 = some (m.I 37 2) := rfl
theorem p_37_2 (x : Int32) : sF 2 2 (.int x) (HH m) 37 = some (HH (m.sI 37 2 x)) := rfl
theorem g_37_3 : fR 2 3 (HH m) 37 = some 38 := rfl
theorem g_37_4 : fR 2 4 (HH m) 37 = some 39 := rfl
theorem g_37_5 : fR 2 5 (HH m) 37 = some 40 := rfl
theorem g_37_6 : fR 2 6 (HH m) 37 = some 41 := rfl
theorem g_37_7 : fR 2 7 (HH m) 37 = some 42 := rfl
theorem g_37_8 : fR 2 8 (HH m) 37 = some 43 := rfl
theorem g_37_9 : fR 2 9 (HH m) 37 = some 44 := rfl
theorem r_38 {i : Nat} (hi : i < 56) : aI (HH m) 38 (nI i) = some (m.I 38 i) := aI_g (h := HH m) (a := 38) rfl (by decide) hi
theorem w_38 {i : Nat} (hi : i < 56) (x : Int32) : wI (HH m) 38 (nI i) x = some (HH (m.sI 38 i x)) := wI_g (h := HH m) (a := 38) rfl (by decide) hi x
theorem r_39 {i : Nat} (hi : i < 56) : aI (HH m) 39 (nI i) = some (m.I 39 i) := aI_g (h := HH m) (a := 39) rfl (by decide) hi
theorem w_39 {i : Nat} (hi : i < 56) (x : Int32) : wI (HH m) 39 (nI i) x = some (HH (m.sI 39 i x)) := wI_g (h := HH m) (a := 39) rfl (by decide) hi x
theorem r_40 {i : Nat} (hi : i < 56) : aI (HH m) 40 (nI i) = some (m.I 40 i) := aI_g (h := HH m) (a := 40) rfl (by decide) hi
theorem w_40 {i : Nat} (hi : i < 56) (x : Int32) : wI (HH m) 40 (nI i) x = some (HH (m.sI 40 i x)) := wI_g (h := HH m) (a := 40) rfl (by decide) hi x
theorem r_41 {i : Nat} (hi : i < 56) : aI (HH m) 41 (nI i) = some (m.I 41 i) := aI_g (h := HH m) (a := 41) rfl (by decide) hi
theorem w_41 {i : Nat} (hi : i < 56) (x : Int32) : wI (HH m) 41 (nI i) x = some (HH (m.sI 41 i x)) := wI_g (h := HH m) (a := 41) rfl (by decide) hi x
theorem r_42 {i : Nat} (hi : i < 56) : aJ (HH m) 42 (nI i) = some (m.J 42 i) := aJ_g (h := HH m) (a := 42) rfl (by decide) hi
theorem w_42 {i : Nat} (hi : i < 56) (x : Int64) : wJ (HH m) 42 (nI i) x = some (HH (m.sJ 42 i x)) := wJ_g (h := HH m) (a := 42) rfl (by decide) hi x
theorem r_43 {i : Nat} (hi : i < 8) : aI (HH m) 43 (nI i) = some (m.I 43 i) := aI_g (h := HH m) (a := 43) rfl (by decide) hi
theorem w_43 {i : Nat} (hi : i < 8) (x : Int32) : wI (HH m) 43 (nI i) x = some (HH (m.sI 43 i x)) := wI_g (h := HH m) (a := 43) rfl (by decide) hi x
theorem r_44 {i : Nat} (hi : i < 8) : aI (HH m) 44 (nI i) = some (m.I 44 i) := aI_g (h := HH m) (a := 44) rfl (by decide) hi
theorem w_44 {i : Nat} (hi : i < 8) (x : Int32) : wI (HH m) 44 (nI i) x = some (HH (m.sI 44 i x)) := wI_g (h := HH m) (a := 44) rfl (by decide) hi x
theorem o_45 : rc 2 (HH m) 45 = some () := rfl
theorem g_45_0 : fI 2 0 (HH m) 45 = some (m.I 45 0) := rfl
theorem p_45_0 (x : Int32) : sF 2 0 (.int x) (HH m) 45 = some (HH (m.sI 45 0 x)) := rfl
theorem g_45_1 : fI 2 1 (HH m) 45 = some (m.I 45 1) := rfl
theorem p_45_1 (x : Int32) : sF 2 1 (.int x) (HH m) 45 = some (HH (m.sI 45 1 x)) := rfl
theorem g_45_2 : fI 2 2 (HH m) 45 = some (m.I 45 2) := rfl
theorem p_45_2 (x : Int32) : sF 2 2 (.int x) (HH m) 45 = some (HH (m.sI 45 2 x)) := rfl
theorem g_45_3 : fR 2 3 (HH m) 45 = some 46 := rfl
theorem g_45_4 : fR 2 4 (HH m) 45 = some 47 := rfl
theorem g_45_5 : fR 2 5 (HH m) 45 = some 48 := rfl
theorem g_45_6 : fR 2 6 (HH m) 45 = some 49 := rfl
theorem g_45_7 : fR 2 7 (HH m) 45 = some 50 := rfl
theorem g_45_8 : fR 2 8 (HH m) 45 = some 51 := rfl
theorem g_45_9 : fR 2 9 (HH m) 45 = some 52 := rfl
theorem r_46 {i : Nat} (hi : i < 56) : aI (HH m) 46 (nI i) = some (m.I 46 i) := aI_g (h := HH m) (a := 46) rfl (by decide) hi
theorem w_46 {i : Nat} (hi : i < 56) (x : Int32) : wI (HH m) 46 (nI i) x = some (HH (m.sI 46 i x)) := wI_g (h := HH m) (a := 46) rfl (by decide) hi x
theorem r_47 {i : Nat} (hi : i < 56) : aI (HH m) 47 (nI i) = some (m.I 47 i) := aI_g (h := HH m) (a := 47) rfl (by decide) hi
theorem w_47 {i : Nat} (hi : i < 56) (x : Int32) : wI (HH m) 47 (nI i) x = some (HH (m.sI 47 i x)) := wI_g (h := HH m) (a := 47) rfl (by decide) hi x
theorem r_48 {i : Nat} (hi : i < 56) : aI (HH m) 48 (nI i) = some (m.I 48 i) := aI_g (h := HH m) (a := 48) rfl (by decide) hi
theorem w_48 {i : Nat} (hi : i < 56) (x : Int32) : wI (HH m) 48 (nI i) x = some (HH (m.sI 48 i x)) := wI_g (h := HH m) (a := 48) rfl (by decide) hi x
theorem r_49 {i : Nat} (hi : i < 56) : aI (HH m) 49 (nI i) = some (m.I 49 i) := aI_g (h := HH m) (a := 49) rfl (by decide) hi
theorem w_49 {i : Nat} (hi : i < 56) (x : Int32) : wI (HH m) 49 (nI i) x = some (HH (m.sI 49 i x)) := wI_g (h := HH m) (a := 49) rfl (by decide) hi x
theorem r_50 {i : Nat} (hi : i < 56) : aJ (HH m) 50 (nI i) = some (m.J 50 i) := aJ_g (h := HH m) (a := 50) rfl (by decide) hi
theorem w_50 {i : Nat} (hi : i < 56) (x : Int64) : wJ (HH m) 50 (nI i) x = some (HH (m.sJ 50 i x)) := wJ_g (h := HH m) (a := 50) rfl (by decide) hi x
theorem r_51 {i : Nat} (hi : i < 8) : aI (HH m) 51 (nI i) = some (m.I 51 i) := aI_g (h := HH m) (a := 51) rfl (by decide) hi
theorem w_51 {i : Nat} (hi : i < 8) (x : Int32) : wI (HH m) 51 (nI i) x = some (HH (m.sI 51 i x)) := wI_g (h := HH m) (a := 51) rfl (by decide) hi x
theorem r_52 {i : Nat} (hi : i < 8) : aI (HH m) 52 (nI i) = some (m.I 52 i) := aI_g (h := HH m) (a := 52) rfl (by decide) hi
theorem w_52 {i : Nat} (hi : i < 8) (x : Int32) : wI (HH m) 52 (nI i) x = some (HH (m.sI 52 i x)) := wI_g (h := HH m) (a := 52) rfl (by decide) hi x
theorem o_53 : rc 2 (HH m) 53 = some () := rfl
theorem g_53_0 : fI 2 0 (HH m) 53 = some (m.I 53 0) := rfl
theorem p_53_0 (x : Int32) : sF 2 0 (.int x) (HH m) 53 = some (HH (m.sI 53 0 x)) := rfl
theorem g_53_1 : fI 2 1 (HH m) 53 = some (m.I 53 1) := rfl
theorem p_53_1 (x : Int32) : sF 2 1 (.int x) (HH m) 53 = some (HH (m.sI 53 1 x)) := rfl
theorem g_53_2 : fI 2 2 (HH m) 53 = some (m.I 53 2) := rfl
theorem p_53_2 (x : Int32) : sF 2 2 (.int x) (HH m) 53 = some (HH (m.sI 53 2 x)) := rfl
theorem g_53_3 : fR 2 3 (HH m) 53 = some 54 := rfl
theorem g_53_4 : fR 2 4 (HH m) 53 = some 55 := rfl
theorem g_53_5 : fR 2 5 (HH m) 53 = some 56 := rfl
theorem g_53_6 : fR 2 6 (HH m) 53 = some 57 := rfl
theorem g_53_7 : fR 2 7 (HH m) 53 = some 58 := rfl
theorem g_53_8 : fR 2 8 (HH m) 53 = some 59 := rfl
theorem g_53_9 : fR 2 9 (HH m) 53 = some 60 := rfl
theorem r_54 {i : Nat} (hi : i < 56) : aI (HH m) 54 (nI i) = some (m.I 54 i) := aI_g (h := HH m) (a := 54) rfl (by decide) hi
theorem w_54 {i : Nat} (hi : i < 56) (x : Int32) : wI (HH m) 54 (nI i) x = some (HH (m.sI 54 i x)) := wI_g (h := HH m) (a := 54) rfl (by decide) hi x
theorem r_55 {i : Nat} (hi : i < 56) : aI (HH m) 55 (nI i) = some (m.I 55 i) := aI_g (h := HH m) (a := 55) rfl (by decide) hi
theorem w_55 {i : Nat} (hi : i < 56) (x : Int32) : wI (HH m) 55 (nI i) x = some (HH (m.sI 55 i x)) := wI_g (h := HH m) (a := 55) rfl (by decide) hi x
theorem r_56 {i : Nat} (hi : i < 56) : aI (HH m) 56 (nI i) = some (m.I 56 i) := aI_g (h := HH m) (a := 56) rfl (by decide) hi
theorem w_56 {i : Nat} (hi : i < 56) (x : Int32) : wI (HH m) 56 (nI i) x = some (HH (m.sI 56 i x)) := wI_g (h := HH m) (a := 56) rfl (by decide) hi x
theorem r_57 {i : Nat} (hi : i < 56) : aI (HH m) 57 (nI i) = some (m.I 57 i) := aI_g (h := HH m) (a := 57) rfl (by decide) hi
theorem w_57 {i : Nat} (hi : i < 56) (x : Int32) : wI (HH m) 57 (nI i) x = some (HH (m.sI 57 i x)) := wI_g (h := HH m) (a := 57) rfl (by decide) hi x
theorem r_58 {i : Nat} (hi : i < 56) : aJ (HH m) 58 (nI i) = some (m.J 58 i) := aJ_g (h := HH m) (a := 58) rfl (by decide) hi
theorem w_58 {i : Nat} (hi : i < 56) (x : Int64) : wJ (HH m) 58 (nI i) x = some (HH (m.sJ 58 i x)) := wJ_g (h := HH m) (a := 58) rfl (by decide) hi x
theorem r_59 {i : Nat} (hi : i < 8) : aI (HH m) 59 (nI i) = some (m.I 59 i) := aI_g (h := HH m) (a := 59) rfl (by decide) hi
theorem w_59 {i : Nat} (hi : i < 8) (x : Int32) : wI (HH m) 59 (nI i) x = some (HH (m.sI 59 i x)) := wI_g (h := HH m) (a := 59) rfl (by decide) hi x
theorem r_60 {i : Nat} (hi : i < 8) : aI (HH m) 60 (nI i) = some (m.I 60 i) := aI_g (h := HH m) (a := 60) rfl (by decide) hi
theorem w_60 {i : Nat} (hi : i < 8) (x : Int32) : wI (HH m) 60 (nI i) x = some (HH (m.sI 60 i x)) := wI_g (h := HH m) (a := 60) rfl (by decide) hi x
theorem o_61 : rc 4 (HH m) 61 = some () := rfl
theorem g_61_0 : fR 4 0 (HH m) 61 = some 62 := rfl
theorem g_61_1 : fR 4 1 (HH m) 61 = some 63 := rfl
theorem g_61_2 : fR 4 2 (HH m) 61 = some 64 := rfl
theorem g_61_3 : fI 4 3 (HH m) 61 = some (m.I 61 3) := rfl
theorem p_61_3 (x : Int32) : sF 4 3 (.int x) (HH m) 61 = some (HH (m.sI 61 3 x)) := rfl
theorem g_61_4 : fR 4 4 (HH m) 61 = some 65 := rfl
theorem g_61_5 : fI 4 5 (HH m) 61 = some (m.I 61 5) := rfl
theorem p_61_5 (x : Int32) : sF 4 5 (.int x) (HH m) 61 = some (HH (m.sI 61 5 x)) := rfl
theorem g_61_6 : fI 4 6 (HH m) 61 = some (m.I 61 6) := rfl
theorem p_61_6 (x : Int32) : sF 4 6 (.int x) (HH m) 61 = some (HH (m.sI 61 6 x)) := rfl
theorem g_61_7 : fR 4 7 (HH m) 61 = some 66 := rfl
theorem g_61_8 : fR 4 8 (HH m) 61 = some 67 := rfl
theorem g_61_9 : fI 4 9 (HH m) 61 = some (m.I 61 9) := rfl
theorem p_61_9 (x : Int32) : sF 4 9 (.int x) (HH m) 61 = some (HH (m.sI 61 9 x)) := rfl
theorem g_61_10 : fR 4 10 (HH m) 61 = some 68 := rfl
theorem g_61_11 : fI 4 11 (HH m) 61 = some (m.I 61 11) := rfl
theorem p_61_11 (x : Int32) : sF 4 11 (.int x) (HH m) 61 = some (HH (m.sI 61 11 x)) := rfl
theorem g_61_12 : fI 4 12 (HH m) 61 = some (m.I 61 12) := rfl
theorem p_61_12 (x : Int32) : sF 4 12 (.int x) (HH m) 61 = some (HH (m.sI 61 12 x)) := rfl
theorem g_61_13 : fR 4 13 (HH m) 61 = some 69 := rfl
theorem g_61_14 : fR 4 14 (HH m) 61 = some 70 := rfl
theorem g_61_15 : fR 4 15 (HH m) 61 = some 71 := rfl
theorem g_61_16 : fR 4 16 (HH m) 61 = some 72 := rfl
theorem g_61_17 : fR 4 17 (HH m) 61 = some 73 := rfl
theorem g_61_18 : fR 4 18 (HH m) 61 = some 74 := rfl
theorem g_61_19 : fR 4 19 (HH m) 61 = some 75 := rfl
theorem g_61_20 : fI 4 20 (HH m) 61 = some (m.I 61 20) := rfl
theorem p_61_20 (x : Int32) : sF 4 20 (.int x) (HH m) 61 = some (HH (m.sI 61 20 x)) := rfl
theorem g_61_21 : fI 4 21 (HH m) 61 = some (m.I 61 21) := rfl
theorem p_61_21 (x : Int32) : sF 4 21 (.int x) (HH m) 61 = some (HH (m.sI 61 21 x)) := rfl
theorem g_61_22 : fR 4 22 (HH m) 61 = some 76 := rfl
theorem g_61_23 : fJ 4 23 (HH m) 61 = some (m.J 61 23) := rfl
theorem p_61_23 (x : Int64) : sF 4 23 (.long x) (HH m) 61 = some (HH (m.sJ 61 23 x)) := rfl
theorem r_62 {i : Nat} (hi : i < 243) : aI (HH m) 62 (nI i) = some (m.I 62 i) := aI_g (h := HH m) (a := 62) rfl (by decide) hi
theorem w_62 {i : Nat} (hi : i < 243) (x : Int32) : wI (HH m) 62 (nI i) x = some (HH (m.sI 62 i x)) := wI_g (h := HH m) (a := 62) rfl (by decide) hi x
theorem r_63 {i : Nat} (hi : i < 972) : aI (HH m) 63 (nI i) = some (m.I 63 i) := aI_g (h := HH m) (a := 63) rfl (by decide) hi
theorem w_63 {i : Nat} (hi : i < 972) (x : Int32) : wI (HH m) 63 (nI i) x = some (HH (m.sI 63 i x)) := wI_g (h := HH m) (a := 63) rfl (by decide) hi x
theorem r_64 {i : Nat} (hi : i < 243) : aI (HH m) 64 (nI i) = some (m.I 64 i) := aI_g (h := HH m) (a := 64) rfl (by decide) hi
theorem w_64 {i : Nat} (hi : i < 243) (x : Int32) : wI (HH m) 64 (nI i) x = some (HH (m.sI 64 i x)) := wI_g (h := HH m) (a := 64) rfl (by decide) hi x
theorem r_65 {i : Nat} (hi : i < 120) : aI (HH m) 65 (nI i) = some (m.I 65 i) := aI_g (h := HH m) (a := 65) rfl (by decide) hi
theorem w_65 {i : Nat} (hi : i < 120) (x : Int32) : wI (HH m) 65 (nI i) x = some (HH (m.sI 65 i x)) := wI_g (h := HH m) (a := 65) rfl (by decide) hi x
theorem r_66 {i : Nat} (hi : i < 168) : aI (HH m) 66 (nI i) = some (m.I 66 i) := aI_g (h := HH m) (a := 66) rfl (by decide) hi
theorem w_66 {i : Nat} (hi : i < 168) (x : Int32) : wI (HH m) 66 (nI i) x = some (HH (m.sI 66 i x)) := wI_g (h := HH m) (a := 66) rfl (by decide) hi x
theorem r_67 {i : Nat} (hi : i < 512) : aI (HH m) 67 (nI i) = some (m.I 67 i) := aI_g (h := HH m) (a := 67) rfl (by decide) hi
theorem w_67 {i : Nat} (hi : i < 512) (x : Int32) : wI (HH m) 67 (nI i) x = some (HH (m.sI 67 i x)) := wI_g (h := HH m) (a := 67) rfl (by decide) hi x
theorem r_68 {i : Nat} (hi : i < 1400) : aI (HH m) 68 (nI i) = some (m.I 68 i) := aI_g (h := HH m) (a := 68) rfl (by decide) hi
theorem w_68 {i : Nat} (hi : i < 1400) (x : Int32) : wI (HH m) 68 (nI i) x = some (HH (m.sI 68 i x)) := wI_g (h := HH m) (a := 68) rfl (by decide) hi x
theorem r_69 {i : Nat} (hi : i < 6) : aI (HH m) 69 (nI i) = some (m.I 69 i) := aI_g (h := HH m) (a := 69) rfl (by decide) hi
theorem w_69 {i : Nat} (hi : i < 6) (x : Int32) : wI (HH m) 69 (nI i) x = some (HH (m.sI 69 i x)) := wI_g (h := HH m) (a := 69) rfl (by decide) hi x
theorem r_70 {i : Nat} (hi : i < 6) : aI (HH m) 70 (nI i) = some (m.I 70 i) := aI_g (h := HH m) (a := 70) rfl (by decide) hi
theorem w_70 {i : Nat} (hi : i < 6) (x : Int32) : wI (HH m) 70 (nI i) x = some (HH (m.sI 70 i x)) := wI_g (h := HH m) (a := 70) rfl (by decide) hi x
theorem r_71 {i : Nat} (hi : i < 56) : aI (HH m) 71 (nI i) = some (m.I 71 i) := aI_g (h := HH m) (a := 71) rfl (by decide) hi
theorem w_71 {i : Nat} (hi : i < 56) (x : Int32) : wI (HH m) 71 (nI i) x = some (HH (m.sI 71 i x)) := wI_g (h := HH m) (a := 71) rfl (by decide) hi x
theorem r_72 {i : Nat} (hi : i < 56) : aJ (HH m) 72 (nI i) = some (m.J 72 i) := aJ_g (h := HH m) (a := 72) rfl (by decide) hi
theorem w_72 {i : Nat} (hi : i < 56) (x : Int64) : wJ (HH m) 72 (nI i) x = some (HH (m.sJ 72 i x)) := wJ_g (h := HH m) (a := 72) rfl (by decide) hi x
theorem r_73 {i : Nat} (hi : i < 10) : aI (HH m) 73 (nI i) = some (m.I 73 i) := aI_g (h := HH m) (a := 73) rfl (by decide) hi
theorem w_73 {i : Nat} (hi : i < 10) (x : Int32) : wI (HH m) 73 (nI i) x = some (HH (m.sI 73 i x)) := wI_g (h := HH m) (a := 73) rfl (by decide) hi x
theorem r_74 {i : Nat} (hi : i < 28) : aI (HH m) 74 (nI i) = some (m.I 74 i) := aI_g (h := HH m) (a := 74) rfl (by decide) hi
theorem w_74 {i : Nat} (hi : i < 28) (x : Int32) : wI (HH m) 74 (nI i) x = some (HH (m.sI 74 i x)) := wI_g (h := HH m) (a := 74) rfl (by decide) hi x
theorem r_75 {i : Nat} (hi : i < 16) : aI (HH m) 75 (nI i) = some (m.I 75 i) := aI_g (h := HH m) (a := 75) rfl (by decide) hi
theorem w_75 {i : Nat} (hi : i < 16) (x : Int32) : wI (HH m) 75 (nI i) x = some (HH (m.sI 75 i x)) := wI_g (h := HH m) (a := 75) rfl (by decide) hi x
theorem r_76 {i : Nat} (hi : i < 3) : aI (HH m) 76 (nI i) = some (m.I 76 i) := aI_g (h := HH m) (a := 76) rfl (by decide) hi
theorem w_76 {i : Nat} (hi : i < 3) (x : Int32) : wI (HH m) 76 (nI i) x = some (HH (m.sI 76 i x)) := wI_g (h := HH m) (a := 76) rfl (by decide) hi x
theorem r_77 {i : Nat} (hi : i < 1) : aJ (HH m) 77 (nI i) = some (m.J 77 i) := aJ_g (h := HH m) (a := 77) rfl (by decide) hi
theorem w_77 {i : Nat} (hi : i < 1) (x : Int64) : wJ (HH m) 77 (nI i) x = some (HH (m.sJ 77 i x)) := wJ_g (h := HH m) (a := 77) rfl (by decide) hi x
theorem sI_I {m : Mem} {a k : Nat} {x : Int32} {b : Nat} : (m.sI a k x).I b = if b = a then upd (m.I a) k x else m.I b := rfl
theorem sI_J {m : Mem} {a k : Nat} {x : Int32} : (m.sI a k x).J = m.J := rfl
theorem sI_V {m : Mem} {a k : Nat} {x : Int32} : (m.sI a k x).V = m.V := rfl
theorem sJ_I {m : Mem} {a k : Nat} {x : Int64} : (m.sJ a k x).I = m.I := rfl
theorem sJ_J {m : Mem} {a k : Nat} {x : Int64} {b : Nat} : (m.sJ a k x).J b = if b = a then vp_updL (m.J a) k x else m.J b := rfl
theorem sJ_V {m : Mem} {a k : Nat} {x : Int64} : (m.sJ a k x).V = m.V := rfl
end MemRows
