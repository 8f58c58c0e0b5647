/-! the start: the first 61 cells -/
def HA (m : Mem) : Hp := [.inr (3, [.ref 1, .ref 9, .ref 17, .ref 21, .int (m.I 0 4), .ref 22, .ref 23, .ref 24, .ref 25, .ref 26, .ref 27, .ref 28]),
  .inr (0, [.int (m.I 1 0), .int (m.I 1 1), .int (m.I 1 2), .ref 2, .ref 3, .ref 4, .ref 5, .ref 6, .ref 7, .ref 8]),
  .inl (0, (168, .inl (m.I 2))),
  .inl (0, (512, .inl (m.I 3))),
  .inl (0, (512, .inl (m.I 4))),
  .inl (0, (1400, .inl (m.I 5))),
  .inl (0, (1680, .inl (m.I 6))),
  .inl (0, (840, .inl (m.I 7))),
  .inl (1, (280, .inr (.inl (m.J 8)))),
  .inr (2, [.int (m.I 9 0), .int (m.I 9 1), .int (m.I 9 2), .ref 10, .ref 11, .ref 12, .ref 13, .ref 14, .ref 15, .ref 16]),
  .inl (0, (56, .inl (m.I 10))),
  .inl (0, (56, .inl (m.I 11))),
  .inl (0, (56, .inl (m.I 12))),
  .inl (0, (56, .inl (m.I 13))),
  .inl (1, (56, .inr (.inl (m.J 14)))),
  .inl (0, (8, .inl (m.I 15))),
  .inl (0, (8, .inl (m.I 16))),
  .inr (1, [.ref 18, .int (m.I 17 1), .ref 19, .ref 20, .int (m.I 17 4)]),
  .inl (0, (120, .inl (m.I 18))),
  .inl (0, (120, .inl (m.I 19))),
  .inl (0, (360, .inl (m.I 20))),
  .inl (2, (4, .inr (.inr (.inr (.inr fun i => if i < 4 then some (m.V i) else none))))),
  .inl (0, (56, .inl (m.I 22))),
  .inl (0, (10, .inl (m.I 23))),
  .inl (0, (28, .inl (m.I 24))),
  .inl (0, (8, .inl (m.I 25))),
  .inl (0, (8, .inl (m.I 26))),
  .inl (0, (8, .inl (m.I 27))),
  .inl (0, (8, .inl (m.I 28))),
  .inr (2, [.int (m.I 29 0), .int (m.I 29 1), .int (m.I 29 2), .ref 30, .ref 31, .ref 32, .ref 33, .ref 34, .ref 35, .ref 36]),
  .inl (0, (56, .inl (m.I 30))),
  .inl (0, (56, .inl (m.I 31))),
  .inl (0, (56, .inl (m.I 32))),
  .inl (0, (56, .inl (m.I 33))),
  .inl (1, (56, .inr (.inl (m.J 34)))),
  .inl (0, (8, .inl (m.I 35))),
  .inl (0, (8, .inl (m.I 36))),
  .inr (2, [.int (m.I 37 0), .int (m.I 37 1), .int (m.I 37 2), .ref 38, .ref 39, .ref 40, .ref 41, .ref 42, .ref 43, .ref 44]),
  .inl (0, (56, .inl (m.I 38))),
  .inl (0, (56, .inl (m.I 39))),
  .inl (0, (56, .inl (m.I 40))),
  .inl (0, (56, .inl (m.I 41))),
  .inl (1, (56, .inr (.inl (m.J 42)))),
  .inl (0, (8, .inl (m.I 43))),
  .inl (0, (8, .inl (m.I 44))),
  .inr (2, [.int (m.I 45 0), .int (m.I 45 1), .int (m.I 45 2), .ref 46, .ref 47, .ref 48, .ref 49, .ref 50, .ref 51, .ref 52]),
  .inl (0, (56, .inl (m.I 46))),
  .inl (0, (56, .inl (m.I 47))),
  .inl (0, (56, .inl (m.I 48))),
  .inl (0, (56, .inl (m.I 49))),
  .inl (1, (56, .inr (.inl (m.J 50)))),
  .inl (0, (8, .inl (m.I 51))),
  .inl (0, (8, .inl (m.I 52))),
  .inr (2, [.int (m.I 53 0), .int (m.I 53 1), .int (m.I 53 2), .ref 54, .ref 55, .ref 56, .ref 57, .ref 58, .ref 59, .ref 60]),
  .inl (0, (56, .inl (m.I 54))),
  .inl (0, (56, .inl (m.I 55))),
  .inl (0, (56, .inl (m.I 56))),
  .inl (0, (56, .inl (m.I 57))),
  .inl (1, (56, .inr (.inl (m.J 58)))),
  .inl (0, (8, .inl (m.I 59))),
  .inl (0, (8, .inl (m.I 60)))]
section MemRowsA
variable (m : Mem)
theorem o_0A : rc 3 (HA m) 0 = some () := rfl
theorem g_0_0A : fR 3 0 (HA m) 0 = some 1 := rfl
theorem g_0_1A : fR 3 1 (HA m) 0 = some 9 := rfl
theorem g_0_2A : fR 3 2 (HA m) 0 = some 17 := rfl
theorem g_0_3A : fR 3 3 (HA m) 0 = some 21 := rfl
theorem g_0_4A : fI 3 4 (HA m) 0 = some (m.I 0 4) := rfl
theorem p_0_4A (x : Int32) : sF 3 4 (.int x) (HA m) 0 = some (HA (m.sI 0 4 x)) := rfl
theorem g_0_5A : fR 3 5 (HA m) 0 = some 22 := rfl
theorem g_0_6A : fR 3 6 (HA m) 0 = some 23 := rfl
theorem g_0_7A : fR 3 7 (HA m) 0 = some 24 := rfl
theorem g_0_8A : fR 3 8 (HA m) 0 = some 25 := rfl
theorem g_0_9A : fR 3 9 (HA m) 0 = some 26 := rfl
theorem g_0_10A : fR 3 10 (HA m) 0 = some 27 := rfl
theorem g_0_11A : fR 3 11 (HA m) 0 = some 28 := rfl
theorem o_1A : rc 0 (HA m) 1 = some () := rfl
theorem g_1_0A : fI 0 0 (HA m) 1 = some (m.I 1 0) := rfl
theorem p_1_0A (x : Int32) : sF 0 0 (.int x) (HA m) 1 = some (HA (m.sI 1 0 x)) := rfl
theorem g_1_1A : fI 0 1 (HA m) 1 = some (m.I 1 1) := rfl
theorem p_1_1A (x : Int32) : sF 0 1 (.int x) (HA m) 1 = some (HA (m.sI 1 1 x)) := rfl
theorem g_1_2A : fI 0 2 (HA m) 1 = some (m.I 1 2) := rfl
theorem p_1_2A (x : Int32) : sF 0 2 (.int x) (HA m) 1 = some (HA (m.sI 1 2 x)) := rfl
theorem g_1_3A : fR 0 3 (HA m) 1 = some 2 := rfl
theorem g_1_4A : fR 0 4 (HA m) 1 = some 3 := rfl
theorem g_1_5A : fR 0 5 (HA m) 1 = some 4 := rfl
theorem g_1_6A : fR 0 6 (HA m) 1 = some 5 := rfl
theorem g_1_7A : fR 0 7 (HA m) 1 = some 6 := rfl
theorem g_1_8A : fR 0 8 (HA m) 1 = some 7 := rfl
theorem g_1_9A : fR 0 9 (HA m) 1 = some 8 := rfl
theorem r_2A {i : Nat} (hi : i < 168) : aI (HA m) 2 (nI i) = some (m.I 2 i) := aI_g (h := HA m) (a := 2) rfl (by decide) hi
theorem w_2A {i : Nat} (hi : i < 168) (x : Int32) : wI (HA m) 2 (nI i) x = some (HA (m.sI 2 i x)) := wI_g (h := HA m) (a := 2) rfl (by decide) hi x
theorem r_3A {i : Nat} (hi : i < 512) : aI (HA m) 3 (nI i) = some (m.I 3 i) := aI_g (h := HA m) (a := 3) rfl (by decide) hi
theorem w_3A {i : Nat} (hi : i < 512) (x : Int32) : wI (HA m) 3 (nI i) x = some (HA (m.sI 3 i x)) := wI_g (h := HA m) (a := 3) rfl (by decide) hi x
theorem r_4A {i : Nat} (hi : i < 512) : aI (HA m) 4 (nI i) = some (m.I 4 i) := aI_g (h := HA m) (a := 4) rfl (by decide) hi
theorem w_4A {i : Nat} (hi : i < 512) (x : Int32) : wI (HA m) 4 (nI i) x = some (HA (m.sI 4 i x)) := wI_g (h := HA m) (a := 4) rfl (by decide) hi x
theorem r_5A {i : Nat} (hi : i < 1400) : aI (HA m) 5 (nI i) = some (m.I 5 i) := aI_g (h := HA m) (a := 5) rfl (by decide) hi
theorem w_5A {i : Nat} (hi : i < 1400) (x : Int32) : wI (HA m) 5 (nI i) x = some (HA (m.sI 5 i x)) := wI_g (h := HA m) (a := 5) rfl (by decide) hi x
theorem r_6A {i : Nat} (hi : i < 1680) : aI (HA m) 6 (nI i) = some (m.I 6 i) := aI_g (h := HA m) (a := 6) rfl (by decide) hi
theorem w_6A {i : Nat} (hi : i < 1680) (x : Int32) : wI (HA m) 6 (nI i) x = some (HA (m.sI 6 i x)) := wI_g (h := HA m) (a := 6) rfl (by decide) hi x
theorem r_7A {i : Nat} (hi : i < 840) : aI (HA m) 7 (nI i) = some (m.I 7 i) := aI_g (h := HA m) (a := 7) rfl (by decide) hi
theorem w_7A {i : Nat} (hi : i < 840) (x : Int32) : wI (HA m) 7 (nI i) x = some (HA (m.sI 7 i x)) := wI_g (h := HA m) (a := 7) rfl (by decide) hi x
theorem r_8A {i : Nat} (hi : i < 280) : aJ (HA m) 8 (nI i) = some (m.J 8 i) := aJ_g (h := HA m) (a := 8) rfl (by decide) hi
theorem w_8A {i : Nat} (hi : i < 280) (x : Int64) : wJ (HA m) 8 (nI i) x = some (HA (m.sJ 8 i x)) := wJ_g (h := HA m) (a := 8) rfl (by decide) hi x
theorem o_9A : rc 2 (HA m) 9 = some () := rfl
theorem g_9_0A : fI 2 0 (HA m) 9 = some (m.I 9 0) := rfl
theorem p_9_0A (x : Int32) : sF 2 0 (.int x) (HA m) 9 = some (HA (m.sI 9 0 x)) := rfl
theorem g_9_1A : fI 2 1 (HA m) 9 = some (m.I 9 1) := rfl
theorem p_9_1A (x : Int32) : sF 2 1 (.int x) (HA m) 9 = some (HA (m.sI 9 1 x)) := rfl
theorem g_9_2A : fI 2 2 (HA m) 9 = some (m.I 9 2) := rfl
theorem p_9_2A (x : Int32) : sF 2 2 (.int x) (HA m) 9 = some (HA (m.sI 9 2 x)) := rfl
theorem g_9_3A : fR 2 3 (HA m) 9 = some 10 := rfl
theorem g_9_4A : fR 2 4 (HA m) 9 = some 11 := rfl
theorem g_9_5A : fR 2 5 (HA m) 9 = some 12 := rfl
theorem g_9_6A : fR 2 6 (HA m) 9 = some 13 := rfl
theorem g_9_7A : fR 2 7 (HA m) 9 = some 14 := rfl
theorem g_9_8A : fR 2 8 (HA m) 9 = some 15 := rfl
theorem g_9_9A : fR 2 9 (HA m) 9 = some 16 := rfl
theorem r_10A {i : Nat} (hi : i < 56) : aI (HA m) 10 (nI i) = some (m.I 10 i) := aI_g (h := HA m) (a := 10) rfl (by decide) hi
theorem w_10A {i : Nat} (hi : i < 56) (x : Int32) : wI (HA m) 10 (nI i) x = some (HA (m.sI 10 i x)) := wI_g (h := HA m) (a := 10) rfl (by decide) hi x
theorem r_11A {i : Nat} (hi : i < 56) : aI (HA m) 11 (nI i) = some (m.I 11 i) := aI_g (h := HA m) (a := 11) rfl (by decide) hi
theorem w_11A {i : Nat} (hi : i < 56) (x : Int32) : wI (HA m) 11 (nI i) x = some (HA (m.sI 11 i x)) := wI_g (h := HA m) (a := 11) rfl (by decide) hi x
theorem r_12A {i : Nat} (hi : i < 56) : aI (HA m) 12 (nI i) = some (m.I 12 i) := aI_g (h := HA m) (a := 12) rfl (by decide) hi
theorem w_12A {i : Nat} (hi : i < 56) (x : Int32) : wI (HA m) 12 (nI i) x = some (HA (m.sI 12 i x)) := wI_g (h := HA m) (a := 12) rfl (by decide) hi x
theorem r_13A {i : Nat} (hi : i < 56) : aI (HA m) 13 (nI i) = some (m.I 13 i) := aI_g (h := HA m) (a := 13) rfl (by decide) hi
theorem w_13A {i : Nat} (hi : i < 56) (x : Int32) : wI (HA m) 13 (nI i) x = some (HA (m.sI 13 i x)) := wI_g (h := HA m) (a := 13) rfl (by decide) hi x
theorem r_14A {i : Nat} (hi : i < 56) : aJ (HA m) 14 (nI i) = some (m.J 14 i) := aJ_g (h := HA m) (a := 14) rfl (by decide) hi
theorem w_14A {i : Nat} (hi : i < 56) (x : Int64) : wJ (HA m) 14 (nI i) x = some (HA (m.sJ 14 i x)) := wJ_g (h := HA m) (a := 14) rfl (by decide) hi x
theorem r_15A {i : Nat} (hi : i < 8) : aI (HA m) 15 (nI i) = some (m.I 15 i) := aI_g (h := HA m) (a := 15) rfl (by decide) hi
theorem w_15A {i : Nat} (hi : i < 8) (x : Int32) : wI (HA m) 15 (nI i) x = some (HA (m.sI 15 i x)) := wI_g (h := HA m) (a := 15) rfl (by decide) hi x
theorem r_16A {i : Nat} (hi : i < 8) : aI (HA m) 16 (nI i) = some (m.I 16 i) := aI_g (h := HA m) (a := 16) rfl (by decide) hi
theorem w_16A {i : Nat} (hi : i < 8) (x : Int32) : wI (HA m) 16 (nI i) x = some (HA (m.sI 16 i x)) := wI_g (h := HA m) (a := 16) rfl (by decide) hi x
theorem o_17A : rc 1 (HA m) 17 = some () := rfl
theorem g_17_0A : fR 1 0 (HA m) 17 = some 18 := rfl
theorem g_17_1A : fI 1 1 (HA m) 17 = some (m.I 17 1) := rfl
theorem p_17_1A (x : Int32) : sF 1 1 (.int x) (HA m) 17 = some (HA (m.sI 17 1 x)) := rfl
theorem g_17_2A : fR 1 2 (HA m) 17 = some 19 := rfl
theorem g_17_3A : fR 1 3 (HA m) 17 = some 20 := rfl
theorem g_17_4A : fI 1 4 (HA m) 17 = some (m.I 17 4) := rfl
theorem p_17_4A (x : Int32) : sF 1 4 (.int x) (HA m) 17 = some (HA (m.sI 17 4 x)) := rfl
theorem r_18A {i : Nat} (hi : i < 120) : aI (HA m) 18 (nI i) = some (m.I 18 i) := aI_g (h := HA m) (a := 18) rfl (by decide) hi
theorem w_18A {i : Nat} (hi : i < 120) (x : Int32) : wI (HA m) 18 (nI i) x = some (HA (m.sI 18 i x)) := wI_g (h := HA m) (a := 18) rfl (by decide) hi x
theorem r_19A {i : Nat} (hi : i < 120) : aI (HA m) 19 (nI i) = some (m.I 19 i) := aI_g (h := HA m) (a := 19) rfl (by decide) hi
theorem w_19A {i : Nat} (hi : i < 120) (x : Int32) : wI (HA m) 19 (nI i) x = some (HA (m.sI 19 i x)) := wI_g (h := HA m) (a := 19) rfl (by decide) hi x
theorem r_20A {i : Nat} (hi : i < 360) : aI (HA m) 20 (nI i) = some (m.I 20 i) := aI_g (h := HA m) (a := 20) rfl (by decide) hi
theorem w_20A {i : Nat} (hi : i < 360) (x : Int32) : wI (HA m) 20 (nI i) x = some (HA (m.sI 20 i x)) := wI_g (h := HA m) (a := 20) rfl (by decide) hi x
theorem r_22A {i : Nat} (hi : i < 56) : aI (HA m) 22 (nI i) = some (m.I 22 i) := aI_g (h := HA m) (a := 22) rfl (by decide) hi
theorem w_22A {i : Nat} (hi : i < 56) (x : Int32) : wI (HA m) 22 (nI i) x = some (HA (m.sI 22 i x)) := wI_g (h := HA m) (a := 22) rfl (by decide) hi x
theorem r_23A {i : Nat} (hi : i < 10) : aI (HA m) 23 (nI i) = some (m.I 23 i) := aI_g (h := HA m) (a := 23) rfl (by decide) hi
theorem w_23A {i : Nat} (hi : i < 10) (x : Int32) : wI (HA m) 23 (nI i) x = some (HA (m.sI 23 i x)) := wI_g (h := HA m) (a := 23) rfl (by decide) hi x
theorem r_24A {i : Nat} (hi : i < 28) : aI (HA m) 24 (nI i) = some (m.I 24 i) := aI_g (h := HA m) (a := 24) rfl (by decide) hi
theorem w_24A {i : Nat} (hi : i < 28) (x : Int32) : wI (HA m) 24 (nI i) x = some (HA (m.sI 24 i x)) := wI_g (h := HA m) (a := 24) rfl (by decide) hi x
theorem r_25A {i : Nat} (hi : i < 8) : aI (HA m) 25 (nI i) = some (m.I 25 i) := aI_g (h := HA m) (a := 25) rfl (by decide) hi
theorem w_25A {i : Nat} (hi : i < 8) (x : Int32) : wI (HA m) 25 (nI i) x = some (HA (m.sI 25 i x)) := wI_g (h := HA m) (a := 25) rfl (by decide) hi x
theorem r_26A {i : Nat} (hi : i < 8) : aI (HA m) 26 (nI i) = some (m.I 26 i) := aI_g (h := HA m) (a := 26) rfl (by decide) hi
theorem w_26A {i : Nat} (hi : i < 8) (x : Int32) : wI (HA m) 26 (nI i) x = some (HA (m.sI 26 i x)) := wI_g (h := HA m) (a := 26) rfl (by decide) hi x
theorem r_27A {i : Nat} (hi : i < 8) : aI (HA m) 27 (nI i) = some (m.I 27 i) := aI_g (h := HA m) (a := 27) rfl (by decide) hi
theorem w_27A {i : Nat} (hi : i < 8) (x : Int32) : wI (HA m) 27 (nI i) x = some (HA (m.sI 27 i x)) := wI_g (h := HA m) (a := 27) rfl (by decide) hi x
theorem r_28A {i : Nat} (hi : i < 8) : aI (HA m) 28 (nI i) = some (m.I 28 i) := aI_g (h := HA m) (a := 28) rfl (by decide) hi
theorem w_28A {i : Nat} (hi : i < 8) (x : Int32) : wI (HA m) 28 (nI i) x = some (HA (m.sI 28 i x)) := wI_g (h := HA m) (a := 28) rfl (by decide) hi x
theorem o_29A : rc 2 (HA m) 29 = some () := rfl
theorem g_29_0A : fI 2 0 (HA m) 29 = some (m.I 29 0) := rfl
theorem p_29_0A (x : Int32) : sF 2 0 (.int x) (HA m) 29 = some (HA (m.sI 29 0 x)) := rfl
theorem g_29_1A : fI 2 1 (HA m) 29 = some (m.I 29 1) := rfl
theorem p_29_1A (x : Int32) : sF 2 1 (.int x) (HA m) 29 = some (HA (m.sI 29 1 x)) := rfl
theorem g_29_2A : fI 2 2 (HA m) 29 = some (m.I 29 2) := rfl
theorem p_29_2A (x : Int32) : sF 2 2 (.int x) (HA m) 29 = some (HA (m.sI 29 2 x)) := rfl
theorem g_29_3A : fR 2 3 (HA m) 29 = some 30 := rfl
theorem g_29_4A : fR 2 4 (HA m) 29 = some 31 := rfl
theorem g_29_5A : fR 2 5 (HA m) 29 = some 32 := rfl
theorem g_29_6A : fR 2 6 (HA m) 29 = some 33 := rfl
theorem g_29_7A : fR 2 7 (HA m) 29 = some 34 := rfl
theorem g_29_8A : fR 2 8 (HA m) 29 = some 35 := rfl
theorem g_29_9A : fR 2 9 (HA m) 29 = some 36 := rfl
theorem r_30A {i : Nat} (hi : i < 56) : aI (HA m) 30 (nI i) = some (m.I 30 i) := aI_g (h := HA m) (a := 30) rfl (by decide) hi
theorem w_30A {i : Nat} (hi : i < 56) (x : Int32) : wI (HA m) 30 (nI i) x = some (HA (m.sI 30 i x)) := wI_g (h := HA m) (a := 30) rfl (by decide) hi x
theorem r_31A {i : Nat} (hi : i < 56) : aI (HA m) 31 (nI i) = some (m.I 31 i) := aI_g (h := HA m) (a := 31) rfl (by decide) hi
theorem w_31A {i : Nat} (hi : i < 56) (x : Int32) : wI (HA m) 31 (nI i) x = some (HA (m.sI 31 i x)) := wI_g (h := HA m) (a := 31) rfl (by decide) hi x
theorem r_32A {i : Nat} (hi : i < 56) : aI (HA m) 32 (nI i) = some (m.I 32 i) := aI_g (h := HA m) (a := 32) rfl (by decide) hi
theorem w_32A {i : Nat} (hi : i < 56) (x : Int32) : wI (HA m) 32 (nI i) x = some (HA (m.sI 32 i x)) := wI_g (h := HA m) (a := 32) rfl (by decide) hi x
theorem r_33A {i : Nat} (hi : i < 56) : aI (HA m) 33 (nI i) = some (m.I 33 i) := aI_g (h := HA m) (a := 33) rfl (by decide) hi
theorem w_33A {i : Nat} (hi : i < 56) (x : Int32) : wI (HA m) 33 (nI i) x = some (HA (m.sI 33 i x)) := wI_g (h := HA m) (a := 33) rfl (by decide) hi x
theorem r_34A {i : Nat} (hi : i < 56) : aJ (HA m) 34 (nI i) = some (m.J 34 i) := aJ_g (h := HA m) (a := 34) rfl (by decide) hi
theorem w_34A {i : Nat} (hi : i < 56) (x : Int64) : wJ (HA m) 34 (nI i) x = some (HA (m.sJ 34 i x)) := wJ_g (h := HA m) (a := 34) rfl (by decide) hi x
theorem r_35A {i : Nat} (hi : i < 8) : aI (HA m) 35 (nI i) = some (m.I 35 i) := aI_g (h := HA m) (a := 35) rfl (by decide) hi
theorem w_35A {i : Nat} (hi : i < 8) (x : Int32) : wI (HA m) 35 (nI i) x = some (HA (m.sI 35 i x)) := wI_g (h := HA m) (a := 35) rfl (by decide) hi x
theorem r_36A {i : Nat} (hi : i < 8) : aI (HA m) 36 (nI i) = some (m.I 36 i) := aI_g (h := HA m) (a := 36) rfl (by decide) hi
theorem w_36A {i : Nat} (hi : i < 8) (x : Int32) : wI (HA m) 36 (nI i) x = some (HA (m.sI 36 i x)) := wI_g (h := HA m) (a := 36) rfl (by decide) hi x
theorem o_37A : rc 2 (HA m) 37 = some () := rfl
theorem g_37_0A : fI 2 0 (HA m) 37 = some (m.I 37 0) := rfl
theorem p_37_0A (x : Int32) : sF 2 0 (.int x) (HA m) 37 = some (HA (m.sI 37 0 x)) := rfl
theorem g_37_1A : fI 2 1 (HA m) 37 = some (m.I 37 1) := rfl
theorem p_37_1A (x : Int32) : sF 2 1 (.int x) (HA m) 37 = some (HA (m.sI 37 1 x)) := rfl
theorem g_37_2A : fI 2 2 (HA m) 37 = some (m.I 37 2) := rfl
theorem p_37_2A (x : Int32) : sF 2 2 (.int x) (HA m) 37 = some (HA (m.sI 37 2 x)) := rfl
theorem g_37_3A : fR 2 3 (HA m) 37 = some 38 := rfl
theorem g_37_4A : fR 2 4 (HA m) 37 = some 39 := rfl
theorem g_37_5A : fR 2 5 (HA m) 37 = some 40 := rfl
theorem g_37_6A : fR 2 6 (HA m) 37 = some 41 := rfl
theorem g_37_7A : fR 2 7 (HA m) 37 = some 42 := rfl
theorem g_37_8A : fR 2 8 (HA m) 37 = some 43 := rfl
theorem g_37_9A : fR 2 9 (HA m) 37 = some 44 := rfl
theorem r_38A {i : Nat} (hi : i < 56) : aI (HA m) 38 (nI i) = some (m.I 38 i) := aI_g (h := HA m) (a := 38) rfl (by decide) hi
theorem w_38A {i : Nat} (hi : i < 56) (x : Int32) : wI (HA m) 38 (nI i) x = some (HA (m.sI 38 i x)) := wI_g (h := HA m) (a := 38) rfl (by decide) hi x
theorem r_39A {i : Nat} (hi : i < 56) : aI (HA m) 39 (nI i) = some (m.I 39 i) := aI_g (h := HA m) (a := 39) rfl (by decide) hi
theorem w_39A {i : Nat} (hi : i < 56) (x : Int32) : wI (HA m) 39 (nI i) x = some (HA (m.sI 39 i x)) := wI_g (h := HA m) (a := 39) rfl (by decide) hi x
theorem r_40A {i : Nat} (hi : i < 56) : aI (HA m) 40 (nI i) = some (m.I 40 i) := aI_g (h := HA m) (a := 40) rfl (by decide) hi
theorem w_40A {i : Nat} (hi : i < 56) (x : Int32) : wI (HA m) 40 (nI i) x = some (HA (m.sI 40 i x)) := wI_g (h := HA m) (a := 40) rfl (by decide) hi x
theorem r_41A {i : Nat} (hi : i < 56) : aI (HA m) 41 (nI i) = some (m.I 41 i) := aI_g (h := HA m) (a := 41) rfl (by decide) hi
theorem w_41A {i : Nat} (hi : i < 56) (x : Int32) : wI (HA m) 41 (nI i) x = some (HA (m.sI 41 i x)) := wI_g (h := HA m) (a := 41) rfl (by decide) hi x
theorem r_42A {i : Nat} (hi : i < 56) : aJ (HA m) 42 (nI i) = some (m.J 42 i) := aJ_g (h := HA m) (a := 42) rfl (by decide) hi
theorem w_42A {i : Nat} (hi : i < 56) (x : Int64) : wJ (HA m) 42 (nI i) x = some (HA (m.sJ 42 i x)) := wJ_g (h := HA m) (a := 42) rfl (by decide) hi x
theorem r_43A {i : Nat} (hi : i < 8) : aI (HA m) 43 (nI i) = some (m.I 43 i) := aI_g (h := HA m) (a := 43) rfl (by decide) hi
theorem w_43A {i : Nat} (hi : i < 8) (x : Int32) : wI (HA m) 43 (nI i) x = some (HA (m.sI 43 i x)) := wI_g (h := HA m) (a := 43) rfl (by decide) hi x
theorem r_44A {i : Nat} (hi : i < 8) : aI (HA m) 44 (nI i) = some (m.I 44 i) := aI_g (h := HA m) (a := 44) rfl (by decide) hi
theorem w_44A {i : Nat} (hi : i < 8) (x : Int32) : wI (HA m) 44 (nI i) x = some (HA (m.sI 44 i x)) := wI_g (h := HA m) (a := 44) rfl (by decide) hi x
theorem o_45A : rc 2 (HA m) 45 = some () := rfl
theorem g_45_0A : fI 2 0 (HA m) 45 = some (m.I 45 0) := rfl
theorem p_45_0A (x : Int32) : sF 2 0 (.int x) (HA m) 45 = some (HA (m.sI 45 0 x)) := rfl
theorem g_45_1A : fI 2 1 (HA m) 45 = some (m.I 45 1) := rfl
theorem p_45_1A (x : Int32) : sF 2 1 (.int x) (HA m) 45 = some (HA (m.sI 45 1 x)) := rfl
theorem g_45_2A : fI 2 2 (HA m) 45 = some (m.I 45 2) := rfl
theorem p_45_2A (x : Int32) : sF 2 2 (.int x) (HA m) 45 = some (HA (m.sI 45 2 x)) := rfl
theorem g_45_3A : fR 2 3 (HA m) 45 = some 46 := rfl
theorem g_45_4A : fR 2 4 (HA m) 45 = some 47 := rfl
theorem g_45_5A : fR 2 5 (HA m) 45 = some 48 := rfl
theorem g_45_6A : fR 2 6 (HA m) 45 = some 49 := rfl
theorem g_45_7A : fR 2 7 (HA m) 45 = some 50 := rfl
theorem g_45_8A : fR 2 8 (HA m) 45 = some 51 := rfl
theorem g_45_9A : fR 2 9 (HA m) 45 = some 52 := rfl
theorem r_46A {i : Nat} (hi : i < 56) : aI (HA m) 46 (nI i) = some (m.I 46 i) := aI_g (h := HA m) (a := 46) rfl (by decide) hi
theorem w_46A {i : Nat} (hi : i < 56) (x : Int32) : wI (HA m) 46 (nI i) x = some (HA (m.sI 46 i x)) := wI_g (h := HA m) (a := 46) rfl (by decide) hi x
theorem r_47A {i : Nat} (hi : i < 56) : aI (HA m) 47 (nI i) = some (m.I 47 i) := aI_g (h := HA m) (a := 47) rfl (by decide) hi
theorem w_47A {i : Nat} (hi : i < 56) (x : Int32) : wI (HA m) 47 (nI i) x = some (HA (m.sI 47 i x)) := wI_g (h := HA m) (a := 47) rfl (by decide) hi x
theorem r_48A {i : Nat} (hi : i < 56) : aI (HA m) 48 (nI i) = some (m.I 48 i) := aI_g (h := HA m) (a := 48) rfl (by decide) hi
theorem w_48A {i : Nat} (hi : i < 56) (x : Int32) : wI (HA m) 48 (nI i) x = some (HA (m.sI 48 i x)) := wI_g (h := HA m) (a := 48) rfl (by decide) hi x
theorem r_49A {i : Nat} (hi : i < 56) : aI (HA m) 49 (nI i) = some (m.I 49 i) := aI_g (h := HA m) (a := 49) rfl (by decide) hi
theorem w_49A {i : Nat} (hi : i < 56) (x : Int32) : wI (HA m) 49 (nI i) x = some (HA (m.sI 49 i x)) := wI_g (h := HA m) (a := 49) rfl (by decide) hi x
theorem r_50A {i : Nat} (hi : i < 56) : aJ (HA m) 50 (nI i) = some (m.J 50 i) := aJ_g (h := HA m) (a := 50) rfl (by decide) hi
theorem w_50A {i : Nat} (hi : i < 56) (x : Int64) : wJ (HA m) 50 (nI i) x = some (HA (m.sJ 50 i x)) := wJ_g (h := HA m) (a := 50) rfl (by decide) hi x
theorem r_51A {i : Nat} (hi : i < 8) : aI (HA m) 51 (nI i) = some (m.I 51 i) := aI_g (h := HA m) (a := 51) rfl (by decide) hi
theorem w_51A {i : Nat} (hi : i < 8) (x : Int32) : wI (HA m) 51 (nI i) x = some (HA (m.sI 51 i x)) := wI_g (h := HA m) (a := 51) rfl (by decide) hi x
theorem r_52A {i : Nat} (hi : i < 8) : aI (HA m) 52 (nI i) = some (m.I 52 i) := aI_g (h := HA m) (a := 52) rfl (by decide) hi
theorem w_52A {i : Nat} (hi : i < 8) (x : Int32) : wI (HA m) 52 (nI i) x = some (HA (m.sI 52 i x)) := wI_g (h := HA m) (a := 52) rfl (by decide) hi x
theorem o_53A : rc 2 (HA m) 53 = some () := rfl
theorem g_53_0A : fI 2 0 (HA m) 53 = some (m.I 53 0) := rfl
theorem p_53_0A (x : Int32) : sF 2 0 (.int x) (HA m) 53 = some (HA (m.sI 53 0 x)) := rfl
theorem g_53_1A : fI 2 1 (HA m) 53 = some (m.I 53 1) := rfl
theorem p_53_1A (x : Int32) : sF 2 1 (.int x) (HA m) 53 = some (HA (m.sI 53 1 x)) := rfl
theorem g_53_2A : fI 2 2 (HA m) 53 = some (m.I 53 2) := rfl
theorem p_53_2A (x : Int32) : sF 2 2 (.int x) (HA m) 53 = some (HA (m.sI 53 2 x)) := rfl
theorem g_53_3A : fR 2 3 (HA m) 53 = some 54 := rfl
theorem g_53_4A : fR 2 4 (HA m) 53 = some 55 := rfl
theorem g_53_5A : fR 2 5 (HA m) 53 = some 56 := rfl
theorem g_53_6A : fR 2 6 (HA m) 53 = some 57 := rfl
theorem g_53_7A : fR 2 7 (HA m) 53 = some 58 := rfl
theorem g_53_8A : fR 2 8 (HA m) 53 = some 59 := rfl
theorem g_53_9A : fR 2 9 (HA m) 53 = some 60 := rfl
theorem r_54A {i : Nat} (hi : i < 56) : aI (HA m) 54 (nI i) = some (m.I 54 i) := aI_g (h := HA m) (a := 54) rfl (by decide) hi
theorem w_54A {i : Nat} (hi : i < 56) (x : Int32) : wI (HA m) 54 (nI i) x = some (HA (m.sI 54 i x)) := wI_g (h := HA m) (a := 54) rfl (by decide) hi x
theorem r_55A {i : Nat} (hi : i < 56) : aI (HA m) 55 (nI i) = some (m.I 55 i) := aI_g (h := HA m) (a := 55) rfl (by decide) hi
theorem w_55A {i : Nat} (hi : i < 56) (x : Int32) : wI (HA m) 55 (nI i) x = some (HA (m.sI 55 i x)) := wI_g (h := HA m) (a := 55) rfl (by decide) hi x
theorem r_56A {i : Nat} (hi : i < 56) : aI (HA m) 56 (nI i) = some (m.I 56 i) := aI_g (h := HA m) (a := 56) rfl (by decide) hi
theorem w_56A {i : Nat} (hi : i < 56) (x : Int32) : wI (HA m) 56 (nI i) x = some (HA (m.sI 56 i x)) := wI_g (h := HA m) (a := 56) rfl (by decide) hi x
theorem r_57A {i : Nat} (hi : i < 56) : aI (HA m) 57 (nI i) = some (m.I 57 i) := aI_g (h := HA m) (a := 57) rfl (by decide) hi
theorem w_57A {i : Nat} (hi : i < 56) (x : Int32) : wI (HA m) 57 (nI i) x = some (HA (m.sI 57 i x)) := wI_g (h := HA m) (a := 57) rfl (by decide) hi x
theorem r_58A {i : Nat} (hi : i < 56) : aJ (HA m) 58 (nI i) = some (m.J 58 i) := aJ_g (h := HA m) (a := 58) rfl (by decide) hi
theorem w_58A {i : Nat} (hi : i < 56) (x : Int64) : wJ (HA m) 58 (nI i) x = some (HA (m.sJ 58 i x)) := wJ_g (h := HA m) (a := 58) rfl (by decide) hi x
theorem r_59A {i : Nat} (hi : i < 8) : aI (HA m) 59 (nI i) = some (m.I 59 i) := aI_g (h := HA m) (a := 59) rfl (by decide) hi
theorem w_59A {i : Nat} (hi : i < 8) (x : Int32) : wI (HA m) 59 (nI i) x = some (HA (m.sI 59 i x)) := wI_g (h := HA m) (a := 59) rfl (by decide) hi x
theorem r_60A {i : Nat} (hi : i < 8) : aI (HA m) 60 (nI i) = some (m.I 60 i) := aI_g (h := HA m) (a := 60) rfl (by decide) hi
theorem w_60A {i : Nat} (hi : i < 8) (x : Int32) : wI (HA m) 60 (nI i) x = some (HA (m.sI 60 i x)) := wI_g (h := HA m) (a := 60) rfl (by decide) hi x
end MemRowsA
section Ds9_unknown
variable (m : Mem)
theorem s9_unknownA {t : Nat} (ht : t < 56) : f_X2_setUnknown 9 (nI t) (HA m) = some (HA (((((m.sI 10 t (-100)).sI 11 t 0).sI 12 t (-100)).sI 13 t (-100)).sJ 14 t 0)) := by
  simp (disch := omega) only [f_X2_setUnknown, o_0A, g_0_0A, g_0_1A, g_0_2A, g_0_3A, g_0_4A, p_0_4A, g_0_5A, g_0_6A, g_0_7A, g_0_8A, g_0_9A, g_0_10A, g_0_11A, o_1A, g_1_0A, p_1_0A, g_1_1A, p_1_1A, g_1_2A, p_1_2A, g_1_3A, g_1_4A, g_1_5A, g_1_6A, g_1_7A, g_1_8A, g_1_9A, r_2A, w_2A, r_3A, w_3A, r_4A, w_4A, r_5A, w_5A, r_6A, w_6A, r_7A, w_7A, r_8A, w_8A, o_9A, g_9_0A, p_9_0A, g_9_1A, p_9_1A, g_9_2A, p_9_2A, g_9_3A, g_9_4A, g_9_5A, g_9_6A, g_9_7A, g_9_8A, g_9_9A, r_10A, w_10A, r_11A, w_11A, r_12A, w_12A, r_13A, w_13A, r_14A, w_14A, r_15A, w_15A, r_16A, w_16A, o_17A, g_17_0A, g_17_1A, p_17_1A, g_17_2A, g_17_3A, g_17_4A, p_17_4A, r_18A, w_18A, r_19A, w_19A, r_20A, w_20A, r_22A, w_22A, r_23A, w_23A, r_24A, w_24A, r_25A, w_25A, r_26A, w_26A, r_27A, w_27A, r_28A, w_28A, o_29A, g_29_0A, p_29_0A, g_29_1A, p_29_1A, g_29_2A, p_29_2A, g_29_3A, g_29_4A, g_29_5A, g_29_6A, g_29_7A, g_29_8A, g_29_9A, r_30A, w_30A, r_31A, w_31A, r_32A, w_32A, r_33A, w_33A, r_34A, w_34A, r_35A, w_35A, r_36A, w_36A, o_37A, g_37_0A, p_37_0A, g_37_1A, p_37_1A, g_37_2A, p_37_2A, g_37_3A, g_37_4A, g_37_5A, g_37_6A, g_37_7A, g_37_8A, g_37_9A, r_38A, w_38A, r_39A, w_39A, r_40A, w_40A, r_41A, w_41A, r_42A, w_42A, r_43A, w_43A, r_44A, w_44A, o_45A, g_45_0A, p_45_0A, g_45_1A, p_45_1A, g_45_2A, p_45_2A, g_45_3A, g_45_4A, g_45_5A, g_45_6A, g_45_7A, g_45_8A, g_45_9A, r_46A, w_46A, r_47A, w_47A, r_48A, w_48A, r_49A, w_49A, r_50A, w_50A, r_51A, w_51A, r_52A, w_52A, o_53A, g_53_0A, p_53_0A, g_53_1A, p_53_1A, g_53_2A, p_53_2A, g_53_3A, g_53_4A, g_53_5A, g_53_6A, g_53_7A, g_53_8A, g_53_9A, r_54A, w_54A, r_55A, w_55A, r_56A, w_56A, r_57A, w_57A, r_58A, w_58A, r_59A, w_59A, r_60A, w_60A, Option.bind_some]
end Ds9_unknown
theorem c9_unknownA {m : Mem} {s : Nat → Int32} {M : Nat → Int64} (h : RS 9 m s M) {t : Nat} (ht : t < 56) : ∃ m1, f_X2_setUnknown 9 (nI t) (HA m) = some (HA m1) ∧ RS 9 m1 (clr t s) (vp_updL M t 0) ∧ Fr (cS 9) m m1 :=
  ⟨_, s9_unknownA m ht, RS_set h (fun k => by
    rw [clr_g]
    (repeat' split) <;> first | rfl | omega) ht⟩
theorem loopAA {α : Type} (L : Nat → Int32 → Hp → Option Hp) (n B lo : Nat) (g : Nat → List α) (R : List α → Mem → Prop)
    (stop : ∀ fuel m l, R l m → L (fuel + 1) (nI n) (HA m) = some (HA m))
    (step : ∀ fuel x m l, lo ≤ x → x < n → R l m → (l ++ g x).length ≤ B → ∃ m1, L (fuel + 1) (nI x) (HA m) = L fuel (nI (x + 1)) (HA m1) ∧ R (l ++ g x) m1) :
    ∀ d x m l fuel, lo ≤ x → x + d = n → d < fuel → R l m → (l ++ (List.range' x d).flatMap g).length ≤ B → ∃ m1, L fuel (nI x) (HA m) = some (HA m1) ∧ R (l ++ (List.range' x d).flatMap g) m1 := by
  intro d
  induction d with
  | zero =>
    intro x m l fuel hlo hd hf hR hB
    obtain ⟨f, rfl⟩ : ∃ f, fuel = f + 1 := ⟨fuel - 1, by omega⟩
    have e : x = n := by omega
    subst e
    refine ⟨m, stop f m l hR, ?_⟩
    have : l ++ (List.range' x 0).flatMap g = l := by simp
    rw [this]
    exact hR
  | succ d ih =>
    intro x m l fuel hlo hd hf hR hB
    obtain ⟨f, rfl⟩ : ∃ f, fuel = f + 1 := ⟨fuel - 1, by omega⟩
    have e : l ++ (List.range' x (d + 1)).flatMap g = (l ++ g x) ++ (List.range' (x + 1) d).flatMap g := by
      rw [List.range'_succ]
      simp
    rw [e] at hB ⊢
    have hB2 : (l ++ g x).length ≤ B := by
      rw [List.length_append] at hB
      omega
    obtain ⟨m1, e1, R1⟩ := step f x m l hlo (by omega) hR hB2
    obtain ⟨m2, e2, R2⟩ := ih (x + 1) m1 (l ++ g x) f (by omega) (by omega) (by omega) R1 hB
    exact ⟨m2, e1.trans e2, R2⟩
theorem c_entA {m : Mem} {T a b c : Nat} (hT : m.I 1 1 = nI T) (ha : a < 8) (hb : b < 8) (hc : c < 8) (v : Int32) : ∃ m1, f_X0_enter 1 (nI a) (nI b) (nI c) v (HA m) = some (HA m1) ∧ m1.I 3 = upd (m.I 3) ((a * 8 + b) * 8 + c) (nI T) ∧ m1.I 4 = upd (m.I 4) ((a * 8 + b) * 8 + c) v ∧ (∀ x, x ≠ 3 → x ≠ 4 → m1.I x = m.I x) ∧ Fr cA m m1 := by
  refine ⟨(m.sI 3 ((a * 8 + b) * 8 + c) (nI T)).sI 4 ((a * 8 + b) * 8 + c) v, ?_, rfl, rfl, fun x h3 h4 => ?_, Fr_sI (Fr_sI (Fr_rf _ m) ⟨by omega, by omega⟩) ⟨by omega, by omega⟩⟩
  · simp (disch := omega) only [f_X0_enter, f_X0_spot, show (8 : Int32) = nI 8 from rfl, pk_mul, nI_add, o_0A, g_0_0A, g_0_1A, g_0_2A, g_0_3A, g_0_4A, p_0_4A, g_0_5A, g_0_6A, g_0_7A, g_0_8A, g_0_9A, g_0_10A, g_0_11A, o_1A, g_1_0A, p_1_0A, g_1_1A, p_1_1A, g_1_2A, p_1_2A, g_1_3A, g_1_4A, g_1_5A, g_1_6A, g_1_7A, g_1_8A, g_1_9A, r_2A, w_2A, r_3A, w_3A, r_4A, w_4A, r_5A, w_5A, r_6A, w_6A, r_7A, w_7A, r_8A, w_8A, o_9A, g_9_0A, p_9_0A, g_9_1A, p_9_1A, g_9_2A, p_9_2A, g_9_3A, g_9_4A, g_9_5A, g_9_6A, g_9_7A, g_9_8A, g_9_9A, r_10A, w_10A, r_11A, w_11A, r_12A, w_12A, r_13A, w_13A, r_14A, w_14A, r_15A, w_15A, r_16A, w_16A, o_17A, g_17_0A, g_17_1A, p_17_1A, g_17_2A, g_17_3A, g_17_4A, p_17_4A, r_18A, w_18A, r_19A, w_19A, r_20A, w_20A, r_22A, w_22A, r_23A, w_23A, r_24A, w_24A, r_25A, w_25A, r_26A, w_26A, r_27A, w_27A, r_28A, w_28A, o_29A, g_29_0A, p_29_0A, g_29_1A, p_29_1A, g_29_2A, p_29_2A, g_29_3A, g_29_4A, g_29_5A, g_29_6A, g_29_7A, g_29_8A, g_29_9A, r_30A, w_30A, r_31A, w_31A, r_32A, w_32A, r_33A, w_33A, r_34A, w_34A, r_35A, w_35A, r_36A, w_36A, o_37A, g_37_0A, p_37_0A, g_37_1A, p_37_1A, g_37_2A, p_37_2A, g_37_3A, g_37_4A, g_37_5A, g_37_6A, g_37_7A, g_37_8A, g_37_9A, r_38A, w_38A, r_39A, w_39A, r_40A, w_40A, r_41A, w_41A, r_42A, w_42A, r_43A, w_43A, r_44A, w_44A, o_45A, g_45_0A, p_45_0A, g_45_1A, p_45_1A, g_45_2A, p_45_2A, g_45_3A, g_45_4A, g_45_5A, g_45_6A, g_45_7A, g_45_8A, g_45_9A, r_46A, w_46A, r_47A, w_47A, r_48A, w_48A, r_49A, w_49A, r_50A, w_50A, r_51A, w_51A, r_52A, w_52A, o_53A, g_53_0A, p_53_0A, g_53_1A, p_53_1A, g_53_2A, p_53_2A, g_53_3A, g_53_4A, g_53_5A, g_53_6A, g_53_7A, g_53_8A, g_53_9A, r_54A, w_54A, r_55A, w_55A, r_56A, w_56A, r_57A, w_57A, r_58A, w_58A, r_59A, w_59A, r_60A, w_60A, Option.bind_some, hT]
  · rw [sI_I, if_neg h4, sI_I, if_neg h3]
theorem c_addTA {n : Nat} {l : List (Nat × Nat × Nat)} {m : Mem} (hR : RT n l m) (hl : l.length < 56) {i j k : Nat} (h1 : i < j) (h2 : j < k) (h3 : k < 8) : ∃ m1, f_X0_addTriple 1 (nI i) (nI j) (nI k) (HA m) = some (HA m1) ∧ RT n (l ++ [(i, j, k)]) m1 ∧ Fr cA m m1 := by
  obtain ⟨a0, a1, az, a2, a3⟩ := hR
  obtain ⟨m0, em0⟩ : ∃ m0, m0 = ((m.sI 2 (l.length * 3) (nI i)).sI 2 (l.length * 3 + 1) (nI j)).sI 2 (l.length * 3 + 2) (nI k) := ⟨_, rfl⟩
  have b1 : m0.I 1 = m.I 1 := by rw [em0]; rfl
  have b2 : m0.I 2 = upd (upd (upd (m.I 2) (l.length * 3) (nI i)) (l.length * 3 + 1) (nI j)) (l.length * 3 + 2) (nI k) := by rw [em0]; rfl
  have b3 : m0.I 3 = m.I 3 := by rw [em0]; rfl
  have b4 : m0.I 4 = m.I 4 := by rw [em0]; rfl
  have f0 : Fr cA m m0 := by rw [em0]; exact Fr_sI (Fr_sI (Fr_sI (Fr_rf _ m) ⟨by omega, by omega⟩) ⟨by omega, by omega⟩) ⟨by omega, by omega⟩
  have t0 : m0.I 1 1 = nI l.length := by rw [b1]; exact a1
  obtain ⟨m1, e1, p1, q1, o1, f1⟩ := c_entA t0 (show i < 8 by omega) (show j < 8 by omega) h3 1
  have t1 : m1.I 1 1 = nI l.length := by rw [o1 1 (by omega) (by omega)]; exact t0
  obtain ⟨m2, e2, p2, q2, o2, f2⟩ := c_entA t1 (show j < 8 by omega) h3 (show i < 8 by omega) 1
  have t2 : m2.I 1 1 = nI l.length := by rw [o2 1 (by omega) (by omega)]; exact t1
  obtain ⟨m3, e3, p3, q3, o3, f3⟩ := c_entA t2 h3 (show i < 8 by omega) (show j < 8 by omega) 1
  have t3 : m3.I 1 1 = nI l.length := by rw [o3 1 (by omega) (by omega)]; exact t2
  obtain ⟨m4, e4, p4, q4, o4, f4⟩ := c_entA t3 (show i < 8 by omega) h3 (show j < 8 by omega) (-1)
  have t4 : m4.I 1 1 = nI l.length := by rw [o4 1 (by omega) (by omega)]; exact t3
  obtain ⟨m5, e5, p5, q5, o5, f5⟩ := c_entA t4 h3 (show j < 8 by omega) (show i < 8 by omega) (-1)
  have t5 : m5.I 1 1 = nI l.length := by rw [o5 1 (by omega) (by omega)]; exact t4
  obtain ⟨m6, e6, p6, q6, o6, f6⟩ := c_entA t5 (show j < 8 by omega) (show i < 8 by omega) h3 (-1)
  have t6 : m6.I 1 1 = nI l.length := by rw [o6 1 (by omega) (by omega)]; exact t5
  have o : ∀ x, x ≠ 3 → x ≠ 4 → m6.I x = m0.I x := fun x h3 h4 => by rw [o6 x h3 h4, o5 x h3 h4, o4 x h3 h4, o3 x h3 h4, o2 x h3 h4, o1 x h3 h4]
  have z3 : (m6.sI 1 1 (nI (l.length + 1))).I 3 = upd (upd (upd (upd (upd (upd (m.I 3) ((i * 8 + j) * 8 + k) (nI l.length)) ((j * 8 + k) * 8 + i) (nI l.length)) ((k * 8 + i) * 8 + j) (nI l.length)) ((i * 8 + k) * 8 + j) (nI l.length)) ((k * 8 + j) * 8 + i) (nI l.length)) ((j * 8 + i) * 8 + k) (nI l.length) := by
    rw [sI_I, if_neg (by omega), p6, p5, p4, p3, p2, p1, b3]
  have z4 : (m6.sI 1 1 (nI (l.length + 1))).I 4 = upd (upd (upd (upd (upd (upd (m.I 4) ((i * 8 + j) * 8 + k) 1) ((j * 8 + k) * 8 + i) 1) ((k * 8 + i) * 8 + j) 1) ((i * 8 + k) * 8 + j) (-1)) ((k * 8 + j) * 8 + i) (-1)) ((j * 8 + i) * 8 + k) (-1) := by
    rw [sI_I, if_neg (by omega), q6, q5, q4, q3, q2, q1, b4]
  have z2 : (m6.sI 1 1 (nI (l.length + 1))).I 2 = m0.I 2 := by rw [sI_I, if_neg (by omega), o 2 (by omega) (by omega)]
  refine ⟨m6.sI 1 1 (nI (l.length + 1)), ?_, ⟨?_, ?_, ?_, ?_, ?_⟩, Fr_sI (Fr_tr f0 (Fr_tr f1 (Fr_tr f2 (Fr_tr f3 (Fr_tr f4 (Fr_tr f5 f6)))))) ⟨by omega, by omega⟩⟩
  · simp (disch := omega) only [f_X0_addTriple, show (3 : Int32) = nI 3 from rfl, pk_mul, add_1, add_2, o_0A, g_0_0A, g_0_1A, g_0_2A, g_0_3A, g_0_4A, p_0_4A, g_0_5A, g_0_6A, g_0_7A, g_0_8A, g_0_9A, g_0_10A, g_0_11A, o_1A, g_1_0A, p_1_0A, g_1_1A, p_1_1A, g_1_2A, p_1_2A, g_1_3A, g_1_4A, g_1_5A, g_1_6A, g_1_7A, g_1_8A, g_1_9A, r_2A, w_2A, r_3A, w_3A, r_4A, w_4A, r_5A, w_5A, r_6A, w_6A, r_7A, w_7A, r_8A, w_8A, o_9A, g_9_0A, p_9_0A, g_9_1A, p_9_1A, g_9_2A, p_9_2A, g_9_3A, g_9_4A, g_9_5A, g_9_6A, g_9_7A, g_9_8A, g_9_9A, r_10A, w_10A, r_11A, w_11A, r_12A, w_12A, r_13A, w_13A, r_14A, w_14A, r_15A, w_15A, r_16A, w_16A, o_17A, g_17_0A, g_17_1A, p_17_1A, g_17_2A, g_17_3A, g_17_4A, p_17_4A, r_18A, w_18A, r_19A, w_19A, r_20A, w_20A, r_22A, w_22A, r_23A, w_23A, r_24A, w_24A, r_25A, w_25A, r_26A, w_26A, r_27A, w_27A, r_28A, w_28A, o_29A, g_29_0A, p_29_0A, g_29_1A, p_29_1A, g_29_2A, p_29_2A, g_29_3A, g_29_4A, g_29_5A, g_29_6A, g_29_7A, g_29_8A, g_29_9A, r_30A, w_30A, r_31A, w_31A, r_32A, w_32A, r_33A, w_33A, r_34A, w_34A, r_35A, w_35A, r_36A, w_36A, o_37A, g_37_0A, p_37_0A, g_37_1A, p_37_1A, g_37_2A, p_37_2A, g_37_3A, g_37_4A, g_37_5A, g_37_6A, g_37_7A, g_37_8A, g_37_9A, r_38A, w_38A, r_39A, w_39A, r_40A, w_40A, r_41A, w_41A, r_42A, w_42A, r_43A, w_43A, r_44A, w_44A, o_45A, g_45_0A, p_45_0A, g_45_1A, p_45_1A, g_45_2A, p_45_2A, g_45_3A, g_45_4A, g_45_5A, g_45_6A, g_45_7A, g_45_8A, g_45_9A, r_46A, w_46A, r_47A, w_47A, r_48A, w_48A, r_49A, w_49A, r_50A, w_50A, r_51A, w_51A, r_52A, w_52A, o_53A, g_53_0A, p_53_0A, g_53_1A, p_53_1A, g_53_2A, p_53_2A, g_53_3A, g_53_4A, g_53_5A, g_53_6A, g_53_7A, g_53_8A, g_53_9A, r_54A, w_54A, r_55A, w_55A, r_56A, w_56A, r_57A, w_57A, r_58A, w_58A, r_59A, w_59A, r_60A, w_60A, Option.bind_some, a1]
    rw [← em0]
    simp only [e1, e2, e3, e4, e5, e6, o_0A, g_0_0A, g_0_1A, g_0_2A, g_0_3A, g_0_4A, p_0_4A, g_0_5A, g_0_6A, g_0_7A, g_0_8A, g_0_9A, g_0_10A, g_0_11A, o_1A, g_1_0A, p_1_0A, g_1_1A, p_1_1A, g_1_2A, p_1_2A, g_1_3A, g_1_4A, g_1_5A, g_1_6A, g_1_7A, g_1_8A, g_1_9A, r_2A, w_2A, r_3A, w_3A, r_4A, w_4A, r_5A, w_5A, r_6A, w_6A, r_7A, w_7A, r_8A, w_8A, o_9A, g_9_0A, p_9_0A, g_9_1A, p_9_1A, g_9_2A, p_9_2A, g_9_3A, g_9_4A, g_9_5A, g_9_6A, g_9_7A, g_9_8A, g_9_9A, r_10A, w_10A, r_11A, w_11A, r_12A, w_12A, r_13A, w_13A, r_14A, w_14A, r_15A, w_15A, r_16A, w_16A, o_17A, g_17_0A, g_17_1A, p_17_1A, g_17_2A, g_17_3A, g_17_4A, p_17_4A, r_18A, w_18A, r_19A, w_19A, r_20A, w_20A, r_22A, w_22A, r_23A, w_23A, r_24A, w_24A, r_25A, w_25A, r_26A, w_26A, r_27A, w_27A, r_28A, w_28A, o_29A, g_29_0A, p_29_0A, g_29_1A, p_29_1A, g_29_2A, p_29_2A, g_29_3A, g_29_4A, g_29_5A, g_29_6A, g_29_7A, g_29_8A, g_29_9A, r_30A, w_30A, r_31A, w_31A, r_32A, w_32A, r_33A, w_33A, r_34A, w_34A, r_35A, w_35A, r_36A, w_36A, o_37A, g_37_0A, p_37_0A, g_37_1A, p_37_1A, g_37_2A, p_37_2A, g_37_3A, g_37_4A, g_37_5A, g_37_6A, g_37_7A, g_37_8A, g_37_9A, r_38A, w_38A, r_39A, w_39A, r_40A, w_40A, r_41A, w_41A, r_42A, w_42A, r_43A, w_43A, r_44A, w_44A, o_45A, g_45_0A, p_45_0A, g_45_1A, p_45_1A, g_45_2A, p_45_2A, g_45_3A, g_45_4A, g_45_5A, g_45_6A, g_45_7A, g_45_8A, g_45_9A, r_46A, w_46A, r_47A, w_47A, r_48A, w_48A, r_49A, w_49A, r_50A, w_50A, r_51A, w_51A, r_52A, w_52A, o_53A, g_53_0A, p_53_0A, g_53_1A, p_53_1A, g_53_2A, p_53_2A, g_53_3A, g_53_4A, g_53_5A, g_53_6A, g_53_7A, g_53_8A, g_53_9A, r_54A, w_54A, r_55A, w_55A, r_56A, w_56A, r_57A, w_57A, r_58A, w_58A, r_59A, w_59A, r_60A, w_60A, Option.bind_some, t6, add_1]
  · rw [sI_at, if_neg (by omega), o 1 (by omega) (by omega), b1]
    exact a0
  · rw [sI_at, if_pos rfl, List.length_append]
    rfl
  · intro a b c ha hb hc h
    have ne : ∀ x y z, x < 8 → y < 8 → z < 8 → x ≠ y → x ≠ z → y ≠ z → ¬ (a * 8 + b) * 8 + c = (x * 8 + y) * 8 + z := by
      intro x y z hx hy hz n1 n2 n3 e
      have e1 : a = x := by omega
      have e2 : b = y := by omega
      have e3 : c = z := by omega
      omega
    rw [z4, upd_g, upd_g, upd_g, upd_g, upd_g, upd_g, if_neg (ne _ _ _ (by omega) (by omega) (by omega) (by omega) (by omega) (by omega)), if_neg (ne _ _ _ (by omega) (by omega) (by omega) (by omega) (by omega) (by omega)), if_neg (ne _ _ _ (by omega) (by omega) (by omega) (by omega) (by omega) (by omega)), if_neg (ne _ _ _ (by omega) (by omega) (by omega) (by omega) (by omega) (by omega)), if_neg (ne _ _ _ (by omega) (by omega) (by omega) (by omega) (by omega) (by omega)), if_neg (ne _ _ _ (by omega) (by omega) (by omega) (by omega) (by omega) (by omega))]
    exact az a b c ha hb hc h
  · intro t w ht hw
    rw [List.length_append] at ht
    have ht : t < l.length + 1 := ht
    rw [z2, b2, upd_g, upd_g, upd_g]
    by_cases c : t = l.length
    · subst c
      rw [cw_r]
      have : w = 0 ∨ w = 1 ∨ w = 2 := by omega
      rcases this with rfl | rfl | rfl
      · rw [if_neg (by omega), if_neg (by omega), if_pos (by omega), if_pos rfl]
      · rw [if_neg (by omega), if_pos (by omega), if_neg (by omega), if_pos rfl]
      · rw [if_pos (by omega), if_neg (by omega), if_neg (by omega)]
    · rw [if_neg (by omega), if_neg (by omega), if_neg (by omega), cw_l (by omega)]
      exact a2 t w (by omega) hw
  · intro a b c ha hb hc n1 n2 n3 hm
    rw [z3, z4, lx_a]
    by_cases cs : srt a b c = (i, j, k)
    · rw [if_pos cs.symm]
      rcases srt_of cs with ⟨rfl, rfl, rfl⟩ | ⟨rfl, rfl, rfl⟩ | ⟨rfl, rfl, rfl⟩ | ⟨rfl, rfl, rfl⟩ | ⟨rfl, rfl, rfl⟩ | ⟨rfl, rfl, rfl⟩
      · unfold par
        refine ⟨?_, ?_⟩
        · rw [upd_g, if_neg (by omega), upd_g, if_neg (by omega), upd_g, if_neg (by omega), upd_g, if_neg (by omega), upd_g, if_neg (by omega), upd_g, if_pos rfl]
        · rw [upd_g, if_neg (by omega), upd_g, if_neg (by omega), upd_g, if_neg (by omega), upd_g, if_neg (by omega), upd_g, if_neg (by omega), upd_g, if_pos rfl]
          (repeat' split) <;> first | rfl | omega
      · unfold par
        refine ⟨?_, ?_⟩
        · rw [upd_g, if_neg (by omega), upd_g, if_neg (by omega), upd_g, if_neg (by omega), upd_g, if_neg (by omega), upd_g, if_pos rfl]
        · rw [upd_g, if_neg (by omega), upd_g, if_neg (by omega), upd_g, if_neg (by omega), upd_g, if_neg (by omega), upd_g, if_pos rfl]
          (repeat' split) <;> first | rfl | omega
      · unfold par
        refine ⟨?_, ?_⟩
        · rw [upd_g, if_neg (by omega), upd_g, if_neg (by omega), upd_g, if_neg (by omega), upd_g, if_pos rfl]
        · rw [upd_g, if_neg (by omega), upd_g, if_neg (by omega), upd_g, if_neg (by omega), upd_g, if_pos rfl]
          (repeat' split) <;> first | rfl | omega
      · unfold par
        refine ⟨?_, ?_⟩
        · rw [upd_g, if_neg (by omega), upd_g, if_neg (by omega), upd_g, if_pos rfl]
        · rw [upd_g, if_neg (by omega), upd_g, if_neg (by omega), upd_g, if_pos rfl]
          (repeat' split) <;> first | rfl | omega
      · unfold par
        refine ⟨?_, ?_⟩
        · rw [upd_g, if_neg (by omega), upd_g, if_pos rfl]
        · rw [upd_g, if_neg (by omega), upd_g, if_pos rfl]
          (repeat' split) <;> first | rfl | omega
      · unfold par
        refine ⟨?_, ?_⟩
        · rw [upd_g, if_pos rfl]
        · rw [upd_g, if_pos rfl]
          (repeat' split) <;> first | rfl | omega
    · obtain ⟨s1, s2, s3, s4, s5, s6⟩ := srt_6 h1 h2
      have ne : ∀ x y z, x < 8 → y < 8 → z < 8 → srt x y z = (i, j, k) → ¬ (a * 8 + b) * 8 + c = (x * 8 + y) * 8 + z := by
        intro x y z hx hy hz hs e
        have e1 : a = x := by omega
        have e2 : b = y := by omega
        have e3 : c = z := by omega
        rw [e1, e2, e3] at cs
        exact cs hs
      rw [if_neg (fun e => cs e.symm)]
      rw [upd_g, if_neg (ne _ _ _ (by omega) (by omega) (by omega) s6), upd_g, if_neg (ne _ _ _ (by omega) (by omega) (by omega) s5), upd_g, if_neg (ne _ _ _ (by omega) (by omega) (by omega) s4), upd_g, if_neg (ne _ _ _ (by omega) (by omega) (by omega) s3), upd_g, if_neg (ne _ _ _ (by omega) (by omega) (by omega) s2), upd_g, if_neg (ne _ _ _ (by omega) (by omega) (by omega) s1)]
      rw [upd_g, if_neg (ne _ _ _ (by omega) (by omega) (by omega) s6), upd_g, if_neg (ne _ _ _ (by omega) (by omega) (by omega) s5), upd_g, if_neg (ne _ _ _ (by omega) (by omega) (by omega) s4), upd_g, if_neg (ne _ _ _ (by omega) (by omega) (by omega) s3), upd_g, if_neg (ne _ _ _ (by omega) (by omega) (by omega) s2), upd_g, if_neg (ne _ _ _ (by omega) (by omega) (by omega) s1)]
      refine a3 a b c ha hb hc n1 n2 n3 ?_
      rcases List.mem_append.mp hm with h | h
      · exact h
      · exact absurd (List.mem_singleton.mp h) cs
theorem c_arrTA {n : Nat} (hn : n38 n) {m : Mem} (hn0 : m.I 1 0 = nI n) (hz : LZ m) : ∃ m1, f_X0_arrangeTriples 1 (HA m) = some (HA m1) ∧ RT n (trips n) m1 ∧ Fr cA m m1 := by
  have h8 := hn.2
  have hB : (tI n).length ≤ 56 := by rw [tI_e hn]; exact nT_le hn
  have R0 : RT n [] (m.sI 1 1 0) ∧ Fr cA m (m.sI 1 1 0) := ⟨⟨hn0, rfl, hz, fun t w ht => absurd ht (Nat.not_lt_zero t), fun a b c _ _ _ _ _ _ h => absurd h (by simp)⟩, Fr_sI (Fr_rf _ m) ⟨by omega, by omega⟩⟩
  have inK : ∀ i j, i < j → j < n → ∀ m1 l, (RT n l m1 ∧ Fr cA m m1) → (l ++ tK n i j).length ≤ 56 → ∃ m2, l_X0_arrangeTriples_31 1 (nI i) (nI j) FU (nI (j + 1)) (HA m1) = some (HA m2) ∧ RT n (l ++ tK n i j) m2 ∧ Fr cA m m2 := by
    intro i j hij hj m1 l hR hlen
    refine loopAA (α := Nat × Nat × Nat) (fun fuel x h => l_X0_arrangeTriples_31 1 (nI i) (nI j) fuel x h) n 56 (j + 1) (fun k => [(i, j, k)]) (fun l m1 => RT n l m1 ∧ Fr cA m m1) ?_ ?_ (n - (j + 1)) (j + 1) m1 l FU (Nat.le_refl _) (by omega) (FUx (by omega)) hR hlen
    · intro fuel m1 l hR
      simp (disch := omega) only [l_X0_arrangeTriples_31, o_0A, g_0_0A, g_0_1A, g_0_2A, g_0_3A, g_0_4A, g_0_5A, g_0_6A, g_0_7A, g_0_8A, g_0_9A, g_0_10A, g_0_11A, o_1A, g_1_0A, g_1_1A, g_1_2A, g_1_3A, g_1_4A, g_1_5A, g_1_6A, g_1_7A, g_1_8A, g_1_9A, r_2A, r_3A, r_4A, r_5A, r_6A, r_7A, r_8A, o_9A, g_9_0A, g_9_1A, g_9_2A, g_9_3A, g_9_4A, g_9_5A, g_9_6A, g_9_7A, g_9_8A, g_9_9A, r_10A, r_11A, r_12A, r_13A, r_14A, r_15A, r_16A, o_17A, g_17_0A, g_17_1A, g_17_2A, g_17_3A, g_17_4A, r_18A, r_19A, r_20A, r_22A, r_23A, r_24A, r_25A, r_26A, r_27A, r_28A, o_29A, g_29_0A, g_29_1A, g_29_2A, g_29_3A, g_29_4A, g_29_5A, g_29_6A, g_29_7A, g_29_8A, g_29_9A, r_30A, r_31A, r_32A, r_33A, r_34A, r_35A, r_36A, o_37A, g_37_0A, g_37_1A, g_37_2A, g_37_3A, g_37_4A, g_37_5A, g_37_6A, g_37_7A, g_37_8A, g_37_9A, r_38A, r_39A, r_40A, r_41A, r_42A, r_43A, r_44A, o_45A, g_45_0A, g_45_1A, g_45_2A, g_45_3A, g_45_4A, g_45_5A, g_45_6A, g_45_7A, g_45_8A, g_45_9A, r_46A, r_47A, r_48A, r_49A, r_50A, r_51A, r_52A, o_53A, g_53_0A, g_53_1A, g_53_2A, g_53_3A, g_53_4A, g_53_5A, g_53_6A, g_53_7A, g_53_8A, g_53_9A, r_54A, r_55A, r_56A, r_57A, r_58A, r_59A, r_60A, Option.bind_some, hR.1.1, leN, if_pos (Nat.le_refl n)]
    · intro fuel k m1 l hlo hk hR hlen
      rw [List.length_append] at hlen
      have hlen : l.length + 1 ≤ 56 := hlen
      obtain ⟨m2, e2, R2, f2⟩ := c_addTA hR.1 (by omega) hij (show j < k by omega) (show k < 8 by omega)
      refine ⟨m2, ?_, R2, Fr_tr hR.2 f2⟩
      simp (disch := omega) only [l_X0_arrangeTriples_31, o_0A, g_0_0A, g_0_1A, g_0_2A, g_0_3A, g_0_4A, g_0_5A, g_0_6A, g_0_7A, g_0_8A, g_0_9A, g_0_10A, g_0_11A, o_1A, g_1_0A, g_1_1A, g_1_2A, g_1_3A, g_1_4A, g_1_5A, g_1_6A, g_1_7A, g_1_8A, g_1_9A, r_2A, r_3A, r_4A, r_5A, r_6A, r_7A, r_8A, o_9A, g_9_0A, g_9_1A, g_9_2A, g_9_3A, g_9_4A, g_9_5A, g_9_6A, g_9_7A, g_9_8A, g_9_9A, r_10A, r_11A, r_12A, r_13A, r_14A, r_15A, r_16A, o_17A, g_17_0A, g_17_1A, g_17_2A, g_17_3A, g_17_4A, r_18A, r_19A, r_20A, r_22A, r_23A, r_24A, r_25A, r_26A, r_27A, r_28A, o_29A, g_29_0A, g_29_1A, g_29_2A, g_29_3A, g_29_4A, g_29_5A, g_29_6A, g_29_7A, g_29_8A, g_29_9A, r_30A, r_31A, r_32A, r_33A, r_34A, r_35A, r_36A, o_37A, g_37_0A, g_37_1A, g_37_2A, g_37_3A, g_37_4A, g_37_5A, g_37_6A, g_37_7A, g_37_8A, g_37_9A, r_38A, r_39A, r_40A, r_41A, r_42A, r_43A, r_44A, o_45A, g_45_0A, g_45_1A, g_45_2A, g_45_3A, g_45_4A, g_45_5A, g_45_6A, g_45_7A, g_45_8A, g_45_9A, r_46A, r_47A, r_48A, r_49A, r_50A, r_51A, r_52A, o_53A, g_53_0A, g_53_1A, g_53_2A, g_53_3A, g_53_4A, g_53_5A, g_53_6A, g_53_7A, g_53_8A, g_53_9A, r_54A, r_55A, r_56A, r_57A, r_58A, r_59A, r_60A, Option.bind_some, hR.1.1, leN, if_neg (show ¬ n ≤ k by omega), e2, add1]
  have inJ : ∀ i, i < n → ∀ m1 l, (RT n l m1 ∧ Fr cA m m1) → (l ++ tJ n i).length ≤ 56 → ∃ m2, l_X0_arrangeTriples_19 1 (nI i) FU (nI (i + 1)) (HA m1) = some (HA m2) ∧ RT n (l ++ tJ n i) m2 ∧ Fr cA m m2 := by
    intro i hi m1 l hR hlen
    refine loopAA (α := Nat × Nat × Nat) (fun fuel x h => l_X0_arrangeTriples_19 1 (nI i) fuel x h) n 56 (i + 1) (fun j => tK n i j) (fun l m1 => RT n l m1 ∧ Fr cA m m1) ?_ ?_ (n - (i + 1)) (i + 1) m1 l FU (Nat.le_refl _) (by omega) (FUx (by omega)) hR hlen
    · intro fuel m1 l hR
      simp (disch := omega) only [l_X0_arrangeTriples_19, o_0A, g_0_0A, g_0_1A, g_0_2A, g_0_3A, g_0_4A, g_0_5A, g_0_6A, g_0_7A, g_0_8A, g_0_9A, g_0_10A, g_0_11A, o_1A, g_1_0A, g_1_1A, g_1_2A, g_1_3A, g_1_4A, g_1_5A, g_1_6A, g_1_7A, g_1_8A, g_1_9A, r_2A, r_3A, r_4A, r_5A, r_6A, r_7A, r_8A, o_9A, g_9_0A, g_9_1A, g_9_2A, g_9_3A, g_9_4A, g_9_5A, g_9_6A, g_9_7A, g_9_8A, g_9_9A, r_10A, r_11A, r_12A, r_13A, r_14A, r_15A, r_16A, o_17A, g_17_0A, g_17_1A, g_17_2A, g_17_3A, g_17_4A, r_18A, r_19A, r_20A, r_22A, r_23A, r_24A, r_25A, r_26A, r_27A, r_28A, o_29A, g_29_0A, g_29_1A, g_29_2A, g_29_3A, g_29_4A, g_29_5A, g_29_6A, g_29_7A, g_29_8A, g_29_9A, r_30A, r_31A, r_32A, r_33A, r_34A, r_35A, r_36A, o_37A, g_37_0A, g_37_1A, g_37_2A, g_37_3A, g_37_4A, g_37_5A, g_37_6A, g_37_7A, g_37_8A, g_37_9A, r_38A, r_39A, r_40A, r_41A, r_42A, r_43A, r_44A, o_45A, g_45_0A, g_45_1A, g_45_2A, g_45_3A, g_45_4A, g_45_5A, g_45_6A, g_45_7A, g_45_8A, g_45_9A, r_46A, r_47A, r_48A, r_49A, r_50A, r_51A, r_52A, o_53A, g_53_0A, g_53_1A, g_53_2A, g_53_3A, g_53_4A, g_53_5A, g_53_6A, g_53_7A, g_53_8A, g_53_9A, r_54A, r_55A, r_56A, r_57A, r_58A, r_59A, r_60A, Option.bind_some, hR.1.1, leN, if_pos (Nat.le_refl n)]
    · intro fuel j m1 l hlo hj hR hlen
      obtain ⟨m2, e2, R2⟩ := inK i j (by omega) hj m1 l hR hlen
      refine ⟨m2, ?_, R2⟩
      simp (disch := omega) only [l_X0_arrangeTriples_19, o_0A, g_0_0A, g_0_1A, g_0_2A, g_0_3A, g_0_4A, g_0_5A, g_0_6A, g_0_7A, g_0_8A, g_0_9A, g_0_10A, g_0_11A, o_1A, g_1_0A, g_1_1A, g_1_2A, g_1_3A, g_1_4A, g_1_5A, g_1_6A, g_1_7A, g_1_8A, g_1_9A, r_2A, r_3A, r_4A, r_5A, r_6A, r_7A, r_8A, o_9A, g_9_0A, g_9_1A, g_9_2A, g_9_3A, g_9_4A, g_9_5A, g_9_6A, g_9_7A, g_9_8A, g_9_9A, r_10A, r_11A, r_12A, r_13A, r_14A, r_15A, r_16A, o_17A, g_17_0A, g_17_1A, g_17_2A, g_17_3A, g_17_4A, r_18A, r_19A, r_20A, r_22A, r_23A, r_24A, r_25A, r_26A, r_27A, r_28A, o_29A, g_29_0A, g_29_1A, g_29_2A, g_29_3A, g_29_4A, g_29_5A, g_29_6A, g_29_7A, g_29_8A, g_29_9A, r_30A, r_31A, r_32A, r_33A, r_34A, r_35A, r_36A, o_37A, g_37_0A, g_37_1A, g_37_2A, g_37_3A, g_37_4A, g_37_5A, g_37_6A, g_37_7A, g_37_8A, g_37_9A, r_38A, r_39A, r_40A, r_41A, r_42A, r_43A, r_44A, o_45A, g_45_0A, g_45_1A, g_45_2A, g_45_3A, g_45_4A, g_45_5A, g_45_6A, g_45_7A, g_45_8A, g_45_9A, r_46A, r_47A, r_48A, r_49A, r_50A, r_51A, r_52A, o_53A, g_53_0A, g_53_1A, g_53_2A, g_53_3A, g_53_4A, g_53_5A, g_53_6A, g_53_7A, g_53_8A, g_53_9A, r_54A, r_55A, r_56A, r_57A, r_58A, r_59A, r_60A, Option.bind_some, hR.1.1, leN, if_neg (show ¬ n ≤ j by omega), add_1, e2]
  have go : ∃ m1, l_X0_arrangeTriples_7 1 FU (nI 0) (HA (m.sI 1 1 0)) = some (HA m1) ∧ RT n ([] ++ tI n) m1 ∧ Fr cA m m1 := by
    refine loopAA (α := Nat × Nat × Nat) (fun fuel x h => l_X0_arrangeTriples_7 1 fuel x h) n 56 0 (fun i => tJ n i) (fun l m1 => RT n l m1 ∧ Fr cA m m1) ?_ ?_ n 0 (m.sI 1 1 0) [] FU (Nat.le_refl _) (by omega) (FUx (by omega)) R0 (by show ([] ++ tI n).length ≤ 56; simpa using hB)
    · intro fuel m1 l hR
      simp (disch := omega) only [l_X0_arrangeTriples_7, o_0A, g_0_0A, g_0_1A, g_0_2A, g_0_3A, g_0_4A, g_0_5A, g_0_6A, g_0_7A, g_0_8A, g_0_9A, g_0_10A, g_0_11A, o_1A, g_1_0A, g_1_1A, g_1_2A, g_1_3A, g_1_4A, g_1_5A, g_1_6A, g_1_7A, g_1_8A, g_1_9A, r_2A, r_3A, r_4A, r_5A, r_6A, r_7A, r_8A, o_9A, g_9_0A, g_9_1A, g_9_2A, g_9_3A, g_9_4A, g_9_5A, g_9_6A, g_9_7A, g_9_8A, g_9_9A, r_10A, r_11A, r_12A, r_13A, r_14A, r_15A, r_16A, o_17A, g_17_0A, g_17_1A, g_17_2A, g_17_3A, g_17_4A, r_18A, r_19A, r_20A, r_22A, r_23A, r_24A, r_25A, r_26A, r_27A, r_28A, o_29A, g_29_0A, g_29_1A, g_29_2A, g_29_3A, g_29_4A, g_29_5A, g_29_6A, g_29_7A, g_29_8A, g_29_9A, r_30A, r_31A, r_32A, r_33A, r_34A, r_35A, r_36A, o_37A, g_37_0A, g_37_1A, g_37_2A, g_37_3A, g_37_4A, g_37_5A, g_37_6A, g_37_7A, g_37_8A, g_37_9A, r_38A, r_39A, r_40A, r_41A, r_42A, r_43A, r_44A, o_45A, g_45_0A, g_45_1A, g_45_2A, g_45_3A, g_45_4A, g_45_5A, g_45_6A, g_45_7A, g_45_8A, g_45_9A, r_46A, r_47A, r_48A, r_49A, r_50A, r_51A, r_52A, o_53A, g_53_0A, g_53_1A, g_53_2A, g_53_3A, g_53_4A, g_53_5A, g_53_6A, g_53_7A, g_53_8A, g_53_9A, r_54A, r_55A, r_56A, r_57A, r_58A, r_59A, r_60A, Option.bind_some, hR.1.1, leN, if_pos (Nat.le_refl n)]
    · intro fuel i m1 l hlo hi hR hlen
      obtain ⟨m2, e2, R2⟩ := inJ i hi m1 l hR hlen
      refine ⟨m2, ?_, R2⟩
      simp (disch := omega) only [l_X0_arrangeTriples_7, o_0A, g_0_0A, g_0_1A, g_0_2A, g_0_3A, g_0_4A, g_0_5A, g_0_6A, g_0_7A, g_0_8A, g_0_9A, g_0_10A, g_0_11A, o_1A, g_1_0A, g_1_1A, g_1_2A, g_1_3A, g_1_4A, g_1_5A, g_1_6A, g_1_7A, g_1_8A, g_1_9A, r_2A, r_3A, r_4A, r_5A, r_6A, r_7A, r_8A, o_9A, g_9_0A, g_9_1A, g_9_2A, g_9_3A, g_9_4A, g_9_5A, g_9_6A, g_9_7A, g_9_8A, g_9_9A, r_10A, r_11A, r_12A, r_13A, r_14A, r_15A, r_16A, o_17A, g_17_0A, g_17_1A, g_17_2A, g_17_3A, g_17_4A, r_18A, r_19A, r_20A, r_22A, r_23A, r_24A, r_25A, r_26A, r_27A, r_28A, o_29A, g_29_0A, g_29_1A, g_29_2A, g_29_3A, g_29_4A, g_29_5A, g_29_6A, g_29_7A, g_29_8A, g_29_9A, r_30A, r_31A, r_32A, r_33A, r_34A, r_35A, r_36A, o_37A, g_37_0A, g_37_1A, g_37_2A, g_37_3A, g_37_4A, g_37_5A, g_37_6A, g_37_7A, g_37_8A, g_37_9A, r_38A, r_39A, r_40A, r_41A, r_42A, r_43A, r_44A, o_45A, g_45_0A, g_45_1A, g_45_2A, g_45_3A, g_45_4A, g_45_5A, g_45_6A, g_45_7A, g_45_8A, g_45_9A, r_46A, r_47A, r_48A, r_49A, r_50A, r_51A, r_52A, o_53A, g_53_0A, g_53_1A, g_53_2A, g_53_3A, g_53_4A, g_53_5A, g_53_6A, g_53_7A, g_53_8A, g_53_9A, r_54A, r_55A, r_56A, r_57A, r_58A, r_59A, r_60A, Option.bind_some, hR.1.1, leN, if_neg (show ¬ n ≤ i by omega), add_1, e2]
  obtain ⟨m1, e1, R1, f1⟩ := go
  have e1 : l_X0_arrangeTriples_7 1 FU 0 (HA (m.sI 1 1 0)) = some (HA m1) := e1
  rw [List.nil_append, tI_e hn] at R1
  refine ⟨m1, ?_, R1, f1⟩
  simp only [f_X0_arrangeTriples, o_0A, g_0_0A, g_0_1A, g_0_2A, g_0_3A, g_0_4A, p_0_4A, g_0_5A, g_0_6A, g_0_7A, g_0_8A, g_0_9A, g_0_10A, g_0_11A, o_1A, g_1_0A, p_1_0A, g_1_1A, p_1_1A, g_1_2A, p_1_2A, g_1_3A, g_1_4A, g_1_5A, g_1_6A, g_1_7A, g_1_8A, g_1_9A, r_2A, w_2A, r_3A, w_3A, r_4A, w_4A, r_5A, w_5A, r_6A, w_6A, r_7A, w_7A, r_8A, w_8A, o_9A, g_9_0A, p_9_0A, g_9_1A, p_9_1A, g_9_2A, p_9_2A, g_9_3A, g_9_4A, g_9_5A, g_9_6A, g_9_7A, g_9_8A, g_9_9A, r_10A, w_10A, r_11A, w_11A, r_12A, w_12A, r_13A, w_13A, r_14A, w_14A, r_15A, w_15A, r_16A, w_16A, o_17A, g_17_0A, g_17_1A, p_17_1A, g_17_2A, g_17_3A, g_17_4A, p_17_4A, r_18A, w_18A, r_19A, w_19A, r_20A, w_20A, r_22A, w_22A, r_23A, w_23A, r_24A, w_24A, r_25A, w_25A, r_26A, w_26A, r_27A, w_27A, r_28A, w_28A, o_29A, g_29_0A, p_29_0A, g_29_1A, p_29_1A, g_29_2A, p_29_2A, g_29_3A, g_29_4A, g_29_5A, g_29_6A, g_29_7A, g_29_8A, g_29_9A, r_30A, w_30A, r_31A, w_31A, r_32A, w_32A, r_33A, w_33A, r_34A, w_34A, r_35A, w_35A, r_36A, w_36A, o_37A, g_37_0A, p_37_0A, g_37_1A, p_37_1A, g_37_2A, p_37_2A, g_37_3A, g_37_4A, g_37_5A, g_37_6A, g_37_7A, g_37_8A, g_37_9A, r_38A, w_38A, r_39A, w_39A, r_40A, w_40A, r_41A, w_41A, r_42A, w_42A, r_43A, w_43A, r_44A, w_44A, o_45A, g_45_0A, p_45_0A, g_45_1A, p_45_1A, g_45_2A, p_45_2A, g_45_3A, g_45_4A, g_45_5A, g_45_6A, g_45_7A, g_45_8A, g_45_9A, r_46A, w_46A, r_47A, w_47A, r_48A, w_48A, r_49A, w_49A, r_50A, w_50A, r_51A, w_51A, r_52A, w_52A, o_53A, g_53_0A, p_53_0A, g_53_1A, p_53_1A, g_53_2A, p_53_2A, g_53_3A, g_53_4A, g_53_5A, g_53_6A, g_53_7A, g_53_8A, g_53_9A, r_54A, w_54A, r_55A, w_55A, r_56A, w_56A, r_57A, w_57A, r_58A, w_58A, r_59A, w_59A, r_60A, w_60A, Option.bind_some, e1]
theorem c_prodA {m : Mem} {r p a b A B : Nat} {u v c : Int32} (hr : r < 280) (hp : p < 3) (hR : m.I 1 2 = nI r) (ha : a < 512) (hb : b < 512) (hA : m.I 3 a = nI A) (hB : m.I 3 b = nI B) (hu : m.I 4 a = u) (hv : m.I 4 b = v) : ∃ m1, f_X0_setProduct 1 (nI p) (nI a) (nI b) c (HA m) = some (HA m1) ∧
    m1.I 6 = upd (upd (m.I 6) (r * 6 + 2 * p) (nI A)) (r * 6 + 2 * p + 1) (nI B) ∧ m1.I 7 = upd (m.I 7) (r * 3 + p) (c * u * v) ∧ m1.J 8 = vp_updL (m.J 8) r (m.J 8 r ||| (bitT A ||| bitT B)) ∧ (∀ x, x ≠ 6 → x ≠ 7 → m1.I x = m.I x) ∧ Fr cA m m1 := by
  refine ⟨(((m.sI 6 (r * 6 + 2 * p) (nI A)).sI 6 (r * 6 + 2 * p + 1) (nI B)).sI 7 (r * 3 + p) (c * u * v)).sJ 8 r (m.J 8 r ||| (bitT A ||| bitT B)), ?_, rfl, rfl, rfl, fun x h6 h7 => ?_, Fr_sJ (Fr_sI (Fr_sI (Fr_sI (Fr_rf _ m) ⟨by omega, by omega⟩) ⟨by omega, by omega⟩) ⟨by omega, by omega⟩) ⟨by omega, by omega⟩⟩
  · have h1 : (m.sI 6 (r * 6 + 2 * p) (nI A)).I 3 b = nI B := hB
    have h2 : ((m.sI 6 (r * 6 + 2 * p) (nI A)).sI 6 (r * 6 + 2 * p + 1) (nI B)).I 1 2 = nI r := hR
    have h3 : ((m.sI 6 (r * 6 + 2 * p) (nI A)).sI 6 (r * 6 + 2 * p + 1) (nI B)).I 4 a = u := hu
    have h4 : ((m.sI 6 (r * 6 + 2 * p) (nI A)).sI 6 (r * 6 + 2 * p + 1) (nI B)).I 4 b = v := hv
    have h5 : (((m.sI 6 (r * 6 + 2 * p) (nI A)).sI 6 (r * 6 + 2 * p + 1) (nI B)).sI 7 (r * 3 + p) (c * u * v)).I 1 2 = nI r := hR
    have h6 : (((m.sI 6 (r * 6 + 2 * p) (nI A)).sI 6 (r * 6 + 2 * p + 1) (nI B)).sI 7 (r * 3 + p) (c * u * v)).I 3 a = nI A := hA
    have h7 : (((m.sI 6 (r * 6 + 2 * p) (nI A)).sI 6 (r * 6 + 2 * p + 1) (nI B)).sI 7 (r * 3 + p) (c * u * v)).I 3 b = nI B := hB
    simp (disch := omega) only [f_X0_setProduct, show (6 : Int32) = nI 6 from rfl, show (2 : Int32) = nI 2 from rfl, show (3 : Int32) = nI 3 from rfl, pk_mul, nI_add, add_1, o_0A, g_0_0A, g_0_1A, g_0_2A, g_0_3A, g_0_4A, p_0_4A, g_0_5A, g_0_6A, g_0_7A, g_0_8A, g_0_9A, g_0_10A, g_0_11A, o_1A, g_1_0A, p_1_0A, g_1_1A, p_1_1A, g_1_2A, p_1_2A, g_1_3A, g_1_4A, g_1_5A, g_1_6A, g_1_7A, g_1_8A, g_1_9A, r_2A, w_2A, r_3A, w_3A, r_4A, w_4A, r_5A, w_5A, r_6A, w_6A, r_7A, w_7A, r_8A, w_8A, o_9A, g_9_0A, p_9_0A, g_9_1A, p_9_1A, g_9_2A, p_9_2A, g_9_3A, g_9_4A, g_9_5A, g_9_6A, g_9_7A, g_9_8A, g_9_9A, r_10A, w_10A, r_11A, w_11A, r_12A, w_12A, r_13A, w_13A, r_14A, w_14A, r_15A, w_15A, r_16A, w_16A, o_17A, g_17_0A, g_17_1A, p_17_1A, g_17_2A, g_17_3A, g_17_4A, p_17_4A, r_18A, w_18A, r_19A, w_19A, r_20A, w_20A, r_22A, w_22A, r_23A, w_23A, r_24A, w_24A, r_25A, w_25A, r_26A, w_26A, r_27A, w_27A, r_28A, w_28A, o_29A, g_29_0A, p_29_0A, g_29_1A, p_29_1A, g_29_2A, p_29_2A, g_29_3A, g_29_4A, g_29_5A, g_29_6A, g_29_7A, g_29_8A, g_29_9A, r_30A, w_30A, r_31A, w_31A, r_32A, w_32A, r_33A, w_33A, r_34A, w_34A, r_35A, w_35A, r_36A, w_36A, o_37A, g_37_0A, p_37_0A, g_37_1A, p_37_1A, g_37_2A, p_37_2A, g_37_3A, g_37_4A, g_37_5A, g_37_6A, g_37_7A, g_37_8A, g_37_9A, r_38A, w_38A, r_39A, w_39A, r_40A, w_40A, r_41A, w_41A, r_42A, w_42A, r_43A, w_43A, r_44A, w_44A, o_45A, g_45_0A, p_45_0A, g_45_1A, p_45_1A, g_45_2A, p_45_2A, g_45_3A, g_45_4A, g_45_5A, g_45_6A, g_45_7A, g_45_8A, g_45_9A, r_46A, w_46A, r_47A, w_47A, r_48A, w_48A, r_49A, w_49A, r_50A, w_50A, r_51A, w_51A, r_52A, w_52A, o_53A, g_53_0A, p_53_0A, g_53_1A, p_53_1A, g_53_2A, p_53_2A, g_53_3A, g_53_4A, g_53_5A, g_53_6A, g_53_7A, g_53_8A, g_53_9A, r_54A, w_54A, r_55A, w_55A, r_56A, w_56A, r_57A, w_57A, r_58A, w_58A, r_59A, w_59A, r_60A, w_60A, Option.bind_some, hR, hA, h1, h2, h3, h4, h5, h6, h7]
    rfl
  · show ((((m.sI 6 (r * 6 + 2 * p) (nI A)).sI 6 (r * 6 + 2 * p + 1) (nI B)).sI 7 (r * 3 + p) (c * u * v)).sJ 8 r _).I x = _
    show (((m.sI 6 (r * 6 + 2 * p) (nI A)).sI 6 (r * 6 + 2 * p + 1) (nI B)).sI 7 (r * 3 + p) (c * u * v)).I x = _
    rw [sI_I, if_neg h7, sI_I, if_neg h6, sI_I, if_neg h6]
theorem c_addRA {n : Nat} (hn : n38 n) {l : List (List Nat)} {m : Mem} (hR : RR n l m) (hl : l.length < 280) {a b c d e : Nat} (ha : a < n) (hb : b < n) (hc : c < n) (hd : d < n) (he : e < n) (nab : a ≠ b) (nac : a ≠ c) (nad : a ≠ d) (nae : a ≠ e) (nbc : b < c) (ncd : c < d) (nde : d < e) :
    ∃ m1, f_X0_addRelation 1 (nI a) (nI b) (nI c) (nI d) (nI e) (HA m) = some (HA m1) ∧ RR n (l ++ [[a, b, c, d, e]]) m1 ∧ Fr cA m m1 ∧ m1.I 4 = m.I 4 := by
  have h8 := hn.2
  have hT := nT_le hn
  obtain ⟨hL, hr, hk⟩ := hR
  obtain ⟨r, er⟩ : ∃ r, r = l.length := ⟨_, rfl⟩
  rw [← er] at hr hl
  obtain ⟨m0, em0⟩ : ∃ m0, m0 = (((((m.sI 5 (r * 5) (nI a)).sI 5 (r * 5 + 1) (nI b)).sI 5 (r * 5 + 2) (nI c)).sI 5 (r * 5 + 3) (nI d)).sI 5 (r * 5 + 4) (nI e)).sJ 8 r 0 := ⟨_, rfl⟩
  have b5 : m0.I 5 = upd (upd (upd (upd (upd (m.I 5) (r * 5) (nI a)) (r * 5 + 1) (nI b)) (r * 5 + 2) (nI c)) (r * 5 + 3) (nI d)) (r * 5 + 4) (nI e) := by rw [em0]; rfl
  have bJ : m0.J 8 = vp_updL (m.J 8) r 0 := by rw [em0]; rfl
  have bo : ∀ x, x ≠ 5 → m0.I x = m.I x := fun x hx => by
    rw [em0]
    show ((((((m.sI 5 (r * 5) (nI a)).sI 5 (r * 5 + 1) (nI b)).sI 5 (r * 5 + 2) (nI c)).sI 5 (r * 5 + 3) (nI d)).sI 5 (r * 5 + 4) (nI e))).I x = _
    rw [sI_I, if_neg hx, sI_I, if_neg hx, sI_I, if_neg hx, sI_I, if_neg hx, sI_I, if_neg hx]
  have f0 : Fr cA m m0 := by rw [em0]; exact Fr_sJ (Fr_sI (Fr_sI (Fr_sI (Fr_sI (Fr_sI (Fr_rf _ m) ⟨by omega, by omega⟩) ⟨by omega, by omega⟩) ⟨by omega, by omega⟩) ⟨by omega, by omega⟩) ⟨by omega, by omega⟩) ⟨by omega, by omega⟩
  have L0 : LT n m0 := LT_fr hL (fun k _ => by rw [bo 1 (by omega)]) (bo 2 (by omega)) (bo 3 (by omega)) (bo 4 (by omega))
  have r0 : m0.I 1 2 = nI r := by rw [bo 1 (by omega)]; exact hr
  have nm : ∀ {m1 : Mem}, LT n m1 → ∀ i j k, i < n → j < n → k < n → i ≠ j → i ≠ k → j ≠ k → m1.I 3 ((i * 8 + j) * 8 + k) = nI (num n i j k) := fun h i j k hi hj hk n1 n2 n3 => (h.2.2.2 i j k hi hj hk).2 n1 n2 n3
  have pm : ∀ {m1 : Mem}, LT n m1 → ∀ i j k, i < n → j < n → k < n → m1.I 4 ((i * 8 + j) * 8 + k) = par i j k := fun h i j k hi hj hk => (h.2.2.2 i j k hi hj hk).1
  have LTn : ∀ {m1 m2 : Mem}, LT n m1 → (∀ x, x ≠ 6 → x ≠ 7 → m2.I x = m1.I x) → LT n m2 := fun h o => LT_fr h (fun k _ => by rw [o 1 (by omega) (by omega)]) (o 2 (by omega) (by omega)) (o 3 (by omega) (by omega)) (o 4 (by omega) (by omega))
  obtain ⟨m1, e1, p1, q1, j1, o1, f1⟩ := c_prodA (p := 0) (c := 1) hl (by omega) r0 (a := (a * 8 + b) * 8 + c) (b := (a * 8 + d) * 8 + e) (by omega) (by omega) (nm L0 a b c ha hb hc nab nac (by omega)) (nm L0 a d e ha hd he nad nae (by omega)) (pm L0 a b c ha hb hc) (pm L0 a d e ha hd he)
  have L1 := LTn L0 o1
  have r1 : m1.I 1 2 = nI r := by rw [o1 1 (by omega) (by omega)]; exact r0
  obtain ⟨m2, e2, p2, q2, j2, o2, f2⟩ := c_prodA (p := 1) (c := -1) hl (by omega) r1 (a := (a * 8 + b) * 8 + d) (b := (a * 8 + c) * 8 + e) (by omega) (by omega) (nm L1 a b d ha hb hd nab nad (by omega)) (nm L1 a c e ha hc he nac nae (by omega)) (pm L1 a b d ha hb hd) (pm L1 a c e ha hc he)
  have L2 := LTn L1 o2
  have r2 : m2.I 1 2 = nI r := by rw [o2 1 (by omega) (by omega)]; exact r1
  obtain ⟨m3, e3, p3, q3, j3, o3, f3⟩ := c_prodA (p := 2) (c := 1) hl (by omega) r2 (a := (a * 8 + b) * 8 + e) (b := (a * 8 + c) * 8 + d) (by omega) (by omega) (nm L2 a b e ha hb he nab nae (by omega)) (nm L2 a c d ha hc hd nac nad (by omega)) (pm L2 a b e ha hb he) (pm L2 a c d ha hc hd)
  have L3 := LTn L2 o3
  have r3 : m3.I 1 2 = nI r := by rw [o3 1 (by omega) (by omega)]; exact r2
  have z5 : (m3.sI 1 2 (nI (r + 1))).I 5 = m0.I 5 := by rw [sI_I, if_neg (by omega), o3 5 (by omega) (by omega), o2 5 (by omega) (by omega), o1 5 (by omega) (by omega)]
  have z6 : (m3.sI 1 2 (nI (r + 1))).I 6 = upd (upd (upd (upd (upd (upd (m.I 6) (r * 6 + 2 * 0) (nI (num n a b c))) (r * 6 + 2 * 0 + 1) (nI (num n a d e))) (r * 6 + 2 * 1) (nI (num n a b d))) (r * 6 + 2 * 1 + 1) (nI (num n a c e))) (r * 6 + 2 * 2) (nI (num n a b e))) (r * 6 + 2 * 2 + 1) (nI (num n a c d)) := by
    rw [sI_I, if_neg (by omega), p3, p2, p1, bo 6 (by omega)]
  have z7 : (m3.sI 1 2 (nI (r + 1))).I 7 = upd (upd (upd (m.I 7) (r * 3 + 0) (1 * par a b c * par a d e)) (r * 3 + 1) (-1 * par a b d * par a c e)) (r * 3 + 2) (1 * par a b e * par a c d) := by
    rw [sI_I, if_neg (by omega), q3, q2, q1, bo 7 (by omega)]
  have zJ : (m3.sI 1 2 (nI (r + 1))).J 8 = vp_updL (vp_updL (vp_updL (vp_updL (m.J 8) r 0) r (0 ||| (bitT (num n a b c) ||| bitT (num n a d e)))) r (0 ||| (bitT (num n a b c) ||| bitT (num n a d e)) ||| (bitT (num n a b d) ||| bitT (num n a c e)))) r (0 ||| (bitT (num n a b c) ||| bitT (num n a d e)) ||| (bitT (num n a b d) ||| bitT (num n a c e)) ||| (bitT (num n a b e) ||| bitT (num n a c d))) := by
    show m3.J 8 = _
    rw [j3, j2, j1, bJ]
    have u : ∀ (f : Nat → Int64) (x : Int64), vp_updL f r x r = x := fun f x => by rw [updL_g, if_pos rfl]
    simp only [u]
  have lt56 : ∀ i j k, i < n → j < n → k < n → i ≠ j → i ≠ k → j ≠ k → num n i j k < 56 := fun i j k hi hj hk n1 n2 n3 => by
    have := num_lt hn hi hj hk n1 n2 n3
    omega
  refine ⟨m3.sI 1 2 (nI (r + 1)), ?_, ⟨?_, ?_, fun r' hr' => ?_⟩, Fr_sI (Fr_tr f0 (Fr_tr f1 (Fr_tr f2 f3))) ⟨by omega, by omega⟩, ?_⟩
  · simp (disch := omega) only [f_X0_addRelation, show (5 : Int32) = nI 5 from rfl, pk_mul, add_1, add_2, add_3, show nI (r * 5) + (4 : Int32) = nI (r * 5 + 4) from nI_add _ 4, o_0A, g_0_0A, g_0_1A, g_0_2A, g_0_3A, g_0_4A, p_0_4A, g_0_5A, g_0_6A, g_0_7A, g_0_8A, g_0_9A, g_0_10A, g_0_11A, o_1A, g_1_0A, p_1_0A, g_1_1A, p_1_1A, g_1_2A, p_1_2A, g_1_3A, g_1_4A, g_1_5A, g_1_6A, g_1_7A, g_1_8A, g_1_9A, r_2A, w_2A, r_3A, w_3A, r_4A, w_4A, r_5A, w_5A, r_6A, w_6A, r_7A, w_7A, r_8A, w_8A, o_9A, g_9_0A, p_9_0A, g_9_1A, p_9_1A, g_9_2A, p_9_2A, g_9_3A, g_9_4A, g_9_5A, g_9_6A, g_9_7A, g_9_8A, g_9_9A, r_10A, w_10A, r_11A, w_11A, r_12A, w_12A, r_13A, w_13A, r_14A, w_14A, r_15A, w_15A, r_16A, w_16A, o_17A, g_17_0A, g_17_1A, p_17_1A, g_17_2A, g_17_3A, g_17_4A, p_17_4A, r_18A, w_18A, r_19A, w_19A, r_20A, w_20A, r_22A, w_22A, r_23A, w_23A, r_24A, w_24A, r_25A, w_25A, r_26A, w_26A, r_27A, w_27A, r_28A, w_28A, o_29A, g_29_0A, p_29_0A, g_29_1A, p_29_1A, g_29_2A, p_29_2A, g_29_3A, g_29_4A, g_29_5A, g_29_6A, g_29_7A, g_29_8A, g_29_9A, r_30A, w_30A, r_31A, w_31A, r_32A, w_32A, r_33A, w_33A, r_34A, w_34A, r_35A, w_35A, r_36A, w_36A, o_37A, g_37_0A, p_37_0A, g_37_1A, p_37_1A, g_37_2A, p_37_2A, g_37_3A, g_37_4A, g_37_5A, g_37_6A, g_37_7A, g_37_8A, g_37_9A, r_38A, w_38A, r_39A, w_39A, r_40A, w_40A, r_41A, w_41A, r_42A, w_42A, r_43A, w_43A, r_44A, w_44A, o_45A, g_45_0A, p_45_0A, g_45_1A, p_45_1A, g_45_2A, p_45_2A, g_45_3A, g_45_4A, g_45_5A, g_45_6A, g_45_7A, g_45_8A, g_45_9A, r_46A, w_46A, r_47A, w_47A, r_48A, w_48A, r_49A, w_49A, r_50A, w_50A, r_51A, w_51A, r_52A, w_52A, o_53A, g_53_0A, p_53_0A, g_53_1A, p_53_1A, g_53_2A, p_53_2A, g_53_3A, g_53_4A, g_53_5A, g_53_6A, g_53_7A, g_53_8A, g_53_9A, r_54A, w_54A, r_55A, w_55A, r_56A, w_56A, r_57A, w_57A, r_58A, w_58A, r_59A, w_59A, r_60A, w_60A, Option.bind_some, hr]
    have hm : (((((m.sI 5 (r * 5) (nI a)).sI 5 (r * 5 + 1) (nI b)).sI 5 (r * 5 + 2) (nI c)).sI 5 (r * 5 + 3) (nI d)).sI 5 (r * 5 + 4) (nI e)).I 1 2 = nI r := hr
    simp (disch := omega) only [hm, o_0A, g_0_0A, g_0_1A, g_0_2A, g_0_3A, g_0_4A, p_0_4A, g_0_5A, g_0_6A, g_0_7A, g_0_8A, g_0_9A, g_0_10A, g_0_11A, o_1A, g_1_0A, p_1_0A, g_1_1A, p_1_1A, g_1_2A, p_1_2A, g_1_3A, g_1_4A, g_1_5A, g_1_6A, g_1_7A, g_1_8A, g_1_9A, r_2A, w_2A, r_3A, w_3A, r_4A, w_4A, r_5A, w_5A, r_6A, w_6A, r_7A, w_7A, r_8A, w_8A, o_9A, g_9_0A, p_9_0A, g_9_1A, p_9_1A, g_9_2A, p_9_2A, g_9_3A, g_9_4A, g_9_5A, g_9_6A, g_9_7A, g_9_8A, g_9_9A, r_10A, w_10A, r_11A, w_11A, r_12A, w_12A, r_13A, w_13A, r_14A, w_14A, r_15A, w_15A, r_16A, w_16A, o_17A, g_17_0A, g_17_1A, p_17_1A, g_17_2A, g_17_3A, g_17_4A, p_17_4A, r_18A, w_18A, r_19A, w_19A, r_20A, w_20A, r_22A, w_22A, r_23A, w_23A, r_24A, w_24A, r_25A, w_25A, r_26A, w_26A, r_27A, w_27A, r_28A, w_28A, o_29A, g_29_0A, p_29_0A, g_29_1A, p_29_1A, g_29_2A, p_29_2A, g_29_3A, g_29_4A, g_29_5A, g_29_6A, g_29_7A, g_29_8A, g_29_9A, r_30A, w_30A, r_31A, w_31A, r_32A, w_32A, r_33A, w_33A, r_34A, w_34A, r_35A, w_35A, r_36A, w_36A, o_37A, g_37_0A, p_37_0A, g_37_1A, p_37_1A, g_37_2A, p_37_2A, g_37_3A, g_37_4A, g_37_5A, g_37_6A, g_37_7A, g_37_8A, g_37_9A, r_38A, w_38A, r_39A, w_39A, r_40A, w_40A, r_41A, w_41A, r_42A, w_42A, r_43A, w_43A, r_44A, w_44A, o_45A, g_45_0A, p_45_0A, g_45_1A, p_45_1A, g_45_2A, p_45_2A, g_45_3A, g_45_4A, g_45_5A, g_45_6A, g_45_7A, g_45_8A, g_45_9A, r_46A, w_46A, r_47A, w_47A, r_48A, w_48A, r_49A, w_49A, r_50A, w_50A, r_51A, w_51A, r_52A, w_52A, o_53A, g_53_0A, p_53_0A, g_53_1A, p_53_1A, g_53_2A, p_53_2A, g_53_3A, g_53_4A, g_53_5A, g_53_6A, g_53_7A, g_53_8A, g_53_9A, r_54A, w_54A, r_55A, w_55A, r_56A, w_56A, r_57A, w_57A, r_58A, w_58A, r_59A, w_59A, r_60A, w_60A, Option.bind_some, spot_e]
    rw [← em0, show f_X0_setProduct 1 0 (nI ((a * 8 + b) * 8 + c)) (nI ((a * 8 + d) * 8 + e)) 1 (HA m0) = _ from e1, Option.bind_some, show f_X0_setProduct 1 1 (nI ((a * 8 + b) * 8 + d)) (nI ((a * 8 + c) * 8 + e)) (-1) (HA m1) = _ from e2, Option.bind_some, show f_X0_setProduct 1 2 (nI ((a * 8 + b) * 8 + e)) (nI ((a * 8 + c) * 8 + d)) 1 (HA m2) = _ from e3, Option.bind_some]
    simp only [o_0A, g_0_0A, g_0_1A, g_0_2A, g_0_3A, g_0_4A, p_0_4A, g_0_5A, g_0_6A, g_0_7A, g_0_8A, g_0_9A, g_0_10A, g_0_11A, o_1A, g_1_0A, p_1_0A, g_1_1A, p_1_1A, g_1_2A, p_1_2A, g_1_3A, g_1_4A, g_1_5A, g_1_6A, g_1_7A, g_1_8A, g_1_9A, r_2A, w_2A, r_3A, w_3A, r_4A, w_4A, r_5A, w_5A, r_6A, w_6A, r_7A, w_7A, r_8A, w_8A, o_9A, g_9_0A, p_9_0A, g_9_1A, p_9_1A, g_9_2A, p_9_2A, g_9_3A, g_9_4A, g_9_5A, g_9_6A, g_9_7A, g_9_8A, g_9_9A, r_10A, w_10A, r_11A, w_11A, r_12A, w_12A, r_13A, w_13A, r_14A, w_14A, r_15A, w_15A, r_16A, w_16A, o_17A, g_17_0A, g_17_1A, p_17_1A, g_17_2A, g_17_3A, g_17_4A, p_17_4A, r_18A, w_18A, r_19A, w_19A, r_20A, w_20A, r_22A, w_22A, r_23A, w_23A, r_24A, w_24A, r_25A, w_25A, r_26A, w_26A, r_27A, w_27A, r_28A, w_28A, o_29A, g_29_0A, p_29_0A, g_29_1A, p_29_1A, g_29_2A, p_29_2A, g_29_3A, g_29_4A, g_29_5A, g_29_6A, g_29_7A, g_29_8A, g_29_9A, r_30A, w_30A, r_31A, w_31A, r_32A, w_32A, r_33A, w_33A, r_34A, w_34A, r_35A, w_35A, r_36A, w_36A, o_37A, g_37_0A, p_37_0A, g_37_1A, p_37_1A, g_37_2A, p_37_2A, g_37_3A, g_37_4A, g_37_5A, g_37_6A, g_37_7A, g_37_8A, g_37_9A, r_38A, w_38A, r_39A, w_39A, r_40A, w_40A, r_41A, w_41A, r_42A, w_42A, r_43A, w_43A, r_44A, w_44A, o_45A, g_45_0A, p_45_0A, g_45_1A, p_45_1A, g_45_2A, p_45_2A, g_45_3A, g_45_4A, g_45_5A, g_45_6A, g_45_7A, g_45_8A, g_45_9A, r_46A, w_46A, r_47A, w_47A, r_48A, w_48A, r_49A, w_49A, r_50A, w_50A, r_51A, w_51A, r_52A, w_52A, o_53A, g_53_0A, p_53_0A, g_53_1A, p_53_1A, g_53_2A, p_53_2A, g_53_3A, g_53_4A, g_53_5A, g_53_6A, g_53_7A, g_53_8A, g_53_9A, r_54A, w_54A, r_55A, w_55A, r_56A, w_56A, r_57A, w_57A, r_58A, w_58A, r_59A, w_59A, r_60A, w_60A, Option.bind_some, r3, add_1]
  · exact LT_fr L3 (fun k hk => by rw [sI_at, if_neg (by omega)]) (by rw [sI_I, if_neg (by omega)]) (by rw [sI_I, if_neg (by omega)]) (by rw [sI_I, if_neg (by omega)])
  · rw [sI_at, if_pos rfl, List.length_append, ← er]
    rfl
  · rw [List.length_append] at hr'
    have hr' : r' < l.length + 1 := hr'
    by_cases cr : r' = l.length
    · subst cr
      rw [getD_r]
      unfold RK
      rw [z5, b5, z6, z7, zJ, ← er]
      refine ⟨fun w hw => ?_, fun w hw => ?_, fun p hp => ?_, fun t ht => ?_⟩
      · have : w = 0 ∨ w = 1 ∨ w = 2 ∨ w = 3 ∨ w = 4 := by omega
        rcases this with rfl | rfl | rfl | rfl | rfl
        · rw [upd_g, if_neg (by omega), upd_g, if_neg (by omega), upd_g, if_neg (by omega), upd_g, if_neg (by omega), upd_g, if_pos (by omega)]
          rfl
        · rw [upd_g, if_neg (by omega), upd_g, if_neg (by omega), upd_g, if_neg (by omega), upd_g, if_pos (by omega)]
          rfl
        · rw [upd_g, if_neg (by omega), upd_g, if_neg (by omega), upd_g, if_pos (by omega)]
          rfl
        · rw [upd_g, if_neg (by omega), upd_g, if_pos (by omega)]
          rfl
        · rw [upd_g, if_pos (by omega)]
          rfl
      · have : w = 0 ∨ w = 1 ∨ w = 2 ∨ w = 3 ∨ w = 4 ∨ w = 5 := by omega
        rcases this with rfl | rfl | rfl | rfl | rfl | rfl
        · rw [upd_g, if_neg (by omega), upd_g, if_neg (by omega), upd_g, if_neg (by omega), upd_g, if_neg (by omega), upd_g, if_neg (by omega), upd_g, if_pos (by omega)]
          rfl
        · rw [upd_g, if_neg (by omega), upd_g, if_neg (by omega), upd_g, if_neg (by omega), upd_g, if_neg (by omega), upd_g, if_pos (by omega)]
          rfl
        · rw [upd_g, if_neg (by omega), upd_g, if_neg (by omega), upd_g, if_neg (by omega), upd_g, if_pos (by omega)]
          rfl
        · rw [upd_g, if_neg (by omega), upd_g, if_neg (by omega), upd_g, if_pos (by omega)]
          rfl
        · rw [upd_g, if_neg (by omega), upd_g, if_pos (by omega)]
          rfl
        · rw [upd_g, if_pos (by omega)]
          rfl
      · have : p = 0 ∨ p = 1 ∨ p = 2 := by omega
        rcases this with rfl | rfl | rfl
        · rw [upd_g, if_neg (by omega), upd_g, if_neg (by omega), upd_g, if_pos (by omega)]
          rfl
        · rw [upd_g, if_neg (by omega), upd_g, if_pos (by omega)]
          rfl
        · rw [upd_g, if_pos (by omega)]
          rfl
      · have g0 := lt56 a b c ha hb hc nab nac (by omega)
        have g1 := lt56 a d e ha hd he nad nae (by omega)
        have g2 := lt56 a b d ha hb hd nab nad (by omega)
        have g3 := lt56 a c e ha hc he nac nae (by omega)
        have g4 := lt56 a b e ha hb he nab nae (by omega)
        have g5 := lt56 a c d ha hc hd nac nad (by omega)
        rw [updL_g, if_pos rfl]
        show (_ &&& bitT t) ≠ 0 ↔ _
        rw [bits_or g4 g5 ht, bits_or g2 g3 ht, bits_or g0 g1 ht]
        have z : ¬ ((0 : Int64) &&& bitT t) ≠ 0 := fun h => h (by simp)
        constructor
        · rintro (((h | h | h) | h | h) | h | h)
          · exact absurd h z
          · exact ⟨0, by omega, h⟩
          · exact ⟨1, by omega, h⟩
          · exact ⟨2, by omega, h⟩
          · exact ⟨3, by omega, h⟩
          · exact ⟨4, by omega, h⟩
          · exact ⟨5, by omega, h⟩
        · rintro ⟨w, hw, h⟩
          have : w = 0 ∨ w = 1 ∨ w = 2 ∨ w = 3 ∨ w = 4 ∨ w = 5 := by omega
          rcases this with rfl | rfl | rfl | rfl | rfl | rfl
          · exact Or.inl (Or.inl (Or.inr (Or.inl h)))
          · exact Or.inl (Or.inl (Or.inr (Or.inr h)))
          · exact Or.inl (Or.inr (Or.inl h))
          · exact Or.inl (Or.inr (Or.inr h))
          · exact Or.inr (Or.inl h)
          · exact Or.inr (Or.inr h)
    · have hlt : r' < l.length := by omega
      obtain ⟨k1, k2, k3, k4⟩ := hk r' hlt
      rw [getD_l hlt]
      unfold RK
      rw [z5, b5, z6, z7, zJ]
      refine ⟨fun w hw => ?_, fun w hw => ?_, fun p hp => ?_, fun t ht => ?_⟩
      · rw [upd_g, if_neg (by omega), upd_g, if_neg (by omega), upd_g, if_neg (by omega), upd_g, if_neg (by omega), upd_g, if_neg (by omega)]
        exact k1 w hw
      · rw [upd_g, if_neg (by omega), upd_g, if_neg (by omega), upd_g, if_neg (by omega), upd_g, if_neg (by omega), upd_g, if_neg (by omega), upd_g, if_neg (by omega)]
        exact k2 w hw
      · rw [upd_g, if_neg (by omega), upd_g, if_neg (by omega), upd_g, if_neg (by omega)]
        exact k3 p hp
      · rw [updL_g, if_neg (by omega), updL_g, if_neg (by omega), updL_g, if_neg (by omega), updL_g, if_neg (by omega)]
        exact k4 t ht
  · rw [sI_I, if_neg (by omega), o3 4 (by omega) (by omega), o2 4 (by omega) (by omega), o1 4 (by omega) (by omega), bo 4 (by omega)]
theorem c_arrangeA {n : Nat} (hn : n38 n) {m : Mem} (hz : LZ m) : ∃ m1, f_X0_arrange 1 (nI n) (HA m) = some (HA m1) ∧ LC n m1 ∧ LZ m1 ∧ Fr cA m m1 := by
  have h8 := hn.2
  have hB : (rA n).length ≤ 280 := by rw [rA_e hn]; exact nR_le hn
  obtain ⟨m0, e0, R0, f0⟩ := c_arrTA hn (m := m.sI 1 0 (nI n)) rfl hz
  have f00 : Fr cA m m0 := Fr_tr (Fr_sI (Fr_rf _ m) ⟨by omega, by omega⟩) f0
  have L0 := LT_of hn R0
  have S0 : RR n [] (m0.sI 1 2 0) ∧ Fr cA m (m0.sI 1 2 0) ∧ (m0.sI 1 2 0).I 4 = m0.I 4 := ⟨⟨LT_fr L0 (fun k hk => by rw [sI_at, if_neg (by omega)]) rfl rfl rfl, rfl, fun r hr => absurd hr (Nat.not_lt_zero r)⟩, Fr_sI f00 ⟨by omega, by omega⟩, rfl⟩
  have inE : ∀ a b c d, a < n → b < c → c < d → d < n → ∀ m1 l, (RR n l m1 ∧ Fr cA m m1 ∧ m1.I 4 = m0.I 4) → (l ++ rE n a b c d).length ≤ 280 → ∃ m2, l_X0_arrangeRelations_42 1 (nI a) (nI b) (nI c) (nI d) FU (nI (d + 1)) (HA m1) = some (HA m2) ∧ RR n (l ++ rE n a b c d) m2 ∧ Fr cA m m2 ∧ m2.I 4 = m0.I 4 := by
    intro a b c d ha hbc hcd hd m1 l hR hlen
    refine loopAA (α := List Nat) (fun fuel x h => l_X0_arrangeRelations_42 1 (nI a) (nI b) (nI c) (nI d) fuel x h) n 280 (d + 1) (fun e => if b = a then [] else if c = a then [] else if d = a then [] else if e = a then [] else [[a, b, c, d, e]]) (fun l m1 => RR n l m1 ∧ Fr cA m m1 ∧ m1.I 4 = m0.I 4) ?_ ?_ (n - (d + 1)) (d + 1) m1 l FU (Nat.le_refl _) (by omega) (FUx (by omega)) hR hlen
    · intro fuel m1 l hR
      simp (disch := omega) only [l_X0_arrangeRelations_42, o_0A, g_0_0A, g_0_1A, g_0_2A, g_0_3A, g_0_4A, g_0_5A, g_0_6A, g_0_7A, g_0_8A, g_0_9A, g_0_10A, g_0_11A, o_1A, g_1_0A, g_1_1A, g_1_2A, g_1_3A, g_1_4A, g_1_5A, g_1_6A, g_1_7A, g_1_8A, g_1_9A, r_2A, r_3A, r_4A, r_5A, r_6A, r_7A, r_8A, o_9A, g_9_0A, g_9_1A, g_9_2A, g_9_3A, g_9_4A, g_9_5A, g_9_6A, g_9_7A, g_9_8A, g_9_9A, r_10A, r_11A, r_12A, r_13A, r_14A, r_15A, r_16A, o_17A, g_17_0A, g_17_1A, g_17_2A, g_17_3A, g_17_4A, r_18A, r_19A, r_20A, r_22A, r_23A, r_24A, r_25A, r_26A, r_27A, r_28A, o_29A, g_29_0A, g_29_1A, g_29_2A, g_29_3A, g_29_4A, g_29_5A, g_29_6A, g_29_7A, g_29_8A, g_29_9A, r_30A, r_31A, r_32A, r_33A, r_34A, r_35A, r_36A, o_37A, g_37_0A, g_37_1A, g_37_2A, g_37_3A, g_37_4A, g_37_5A, g_37_6A, g_37_7A, g_37_8A, g_37_9A, r_38A, r_39A, r_40A, r_41A, r_42A, r_43A, r_44A, o_45A, g_45_0A, g_45_1A, g_45_2A, g_45_3A, g_45_4A, g_45_5A, g_45_6A, g_45_7A, g_45_8A, g_45_9A, r_46A, r_47A, r_48A, r_49A, r_50A, r_51A, r_52A, o_53A, g_53_0A, g_53_1A, g_53_2A, g_53_3A, g_53_4A, g_53_5A, g_53_6A, g_53_7A, g_53_8A, g_53_9A, r_54A, r_55A, r_56A, r_57A, r_58A, r_59A, r_60A, Option.bind_some, hR.1.1.1, leN, if_pos (Nat.le_refl n)]
    · intro fuel e m1 l hlo he hR hlen
      have hlen := len_snoc hlen
      simp (disch := omega) only [l_X0_arrangeRelations_42, o_0A, g_0_0A, g_0_1A, g_0_2A, g_0_3A, g_0_4A, g_0_5A, g_0_6A, g_0_7A, g_0_8A, g_0_9A, g_0_10A, g_0_11A, o_1A, g_1_0A, g_1_1A, g_1_2A, g_1_3A, g_1_4A, g_1_5A, g_1_6A, g_1_7A, g_1_8A, g_1_9A, r_2A, r_3A, r_4A, r_5A, r_6A, r_7A, r_8A, o_9A, g_9_0A, g_9_1A, g_9_2A, g_9_3A, g_9_4A, g_9_5A, g_9_6A, g_9_7A, g_9_8A, g_9_9A, r_10A, r_11A, r_12A, r_13A, r_14A, r_15A, r_16A, o_17A, g_17_0A, g_17_1A, g_17_2A, g_17_3A, g_17_4A, r_18A, r_19A, r_20A, r_22A, r_23A, r_24A, r_25A, r_26A, r_27A, r_28A, o_29A, g_29_0A, g_29_1A, g_29_2A, g_29_3A, g_29_4A, g_29_5A, g_29_6A, g_29_7A, g_29_8A, g_29_9A, r_30A, r_31A, r_32A, r_33A, r_34A, r_35A, r_36A, o_37A, g_37_0A, g_37_1A, g_37_2A, g_37_3A, g_37_4A, g_37_5A, g_37_6A, g_37_7A, g_37_8A, g_37_9A, r_38A, r_39A, r_40A, r_41A, r_42A, r_43A, r_44A, o_45A, g_45_0A, g_45_1A, g_45_2A, g_45_3A, g_45_4A, g_45_5A, g_45_6A, g_45_7A, g_45_8A, g_45_9A, r_46A, r_47A, r_48A, r_49A, r_50A, r_51A, r_52A, o_53A, g_53_0A, g_53_1A, g_53_2A, g_53_3A, g_53_4A, g_53_5A, g_53_6A, g_53_7A, g_53_8A, g_53_9A, r_54A, r_55A, r_56A, r_57A, r_58A, r_59A, r_60A, Option.bind_some, hR.1.1.1, leN, if_neg (show ¬ n ≤ e by omega), ne_of hn (show b < n by omega) ha, ne_of hn (show c < n by omega) ha, ne_of hn hd ha, ne_of hn he ha, add1]
      by_cases c1 : b = a
      · rw [if_pos c1, if_pos c1, List.append_nil]
        exact ⟨m1, rfl, hR⟩
      · rw [if_neg c1, if_neg c1]
        by_cases c2 : c = a
        · rw [if_pos c2, if_pos c2, List.append_nil]
          exact ⟨m1, rfl, hR⟩
        · rw [if_neg c2, if_neg c2]
          by_cases c3 : d = a
          · rw [if_pos c3, if_pos c3, List.append_nil]
            exact ⟨m1, rfl, hR⟩
          · rw [if_neg c3, if_neg c3]
            by_cases c4 : e = a
            · rw [if_pos c4, if_pos c4, List.append_nil]
              exact ⟨m1, rfl, hR⟩
            · rw [if_neg c4, if_neg c4]
              rw [if_neg c1, if_neg c2, if_neg c3, if_neg c4] at hlen
              have hlen : l.length + 1 ≤ 280 := hlen
              obtain ⟨m2, e2, R2, f2, z2⟩ := c_addRA hn hR.1 (by omega) ha (show b < n by omega) (show c < n by omega) hd he (fun h => c1 h.symm) (fun h => c2 h.symm) (fun h => c3 h.symm) (fun h => c4 h.symm) hbc hcd (by omega)
              refine ⟨m2, ?_, R2, Fr_tr hR.2.1 f2, z2.trans hR.2.2⟩
              rw [e2]
              rfl
  have inD : ∀ a b c, a < n → b < c → c < n → ∀ m1 l, (RR n l m1 ∧ Fr cA m m1 ∧ m1.I 4 = m0.I 4) → (l ++ rD n a b c).length ≤ 280 → ∃ m2, l_X0_arrangeRelations_27 1 (nI a) (nI b) (nI c) FU (nI (c + 1)) (HA m1) = some (HA m2) ∧ RR n (l ++ rD n a b c) m2 ∧ Fr cA m m2 ∧ m2.I 4 = m0.I 4 := by
    intro a b c ha hbc hc m1 l hR hlen
    refine loopAA (α := List Nat) (fun fuel x h => l_X0_arrangeRelations_27 1 (nI a) (nI b) (nI c) fuel x h) n 280 (c + 1) (fun d => rE n a b c d) (fun l m1 => RR n l m1 ∧ Fr cA m m1 ∧ m1.I 4 = m0.I 4) ?_ ?_ (n - (c + 1)) (c + 1) m1 l FU (Nat.le_refl _) (by omega) (FUx (by omega)) hR hlen
    · intro fuel m1 l hR
      simp (disch := omega) only [l_X0_arrangeRelations_27, o_0A, g_0_0A, g_0_1A, g_0_2A, g_0_3A, g_0_4A, g_0_5A, g_0_6A, g_0_7A, g_0_8A, g_0_9A, g_0_10A, g_0_11A, o_1A, g_1_0A, g_1_1A, g_1_2A, g_1_3A, g_1_4A, g_1_5A, g_1_6A, g_1_7A, g_1_8A, g_1_9A, r_2A, r_3A, r_4A, r_5A, r_6A, r_7A, r_8A, o_9A, g_9_0A, g_9_1A, g_9_2A, g_9_3A, g_9_4A, g_9_5A, g_9_6A, g_9_7A, g_9_8A, g_9_9A, r_10A, r_11A, r_12A, r_13A, r_14A, r_15A, r_16A, o_17A, g_17_0A, g_17_1A, g_17_2A, g_17_3A, g_17_4A, r_18A, r_19A, r_20A, r_22A, r_23A, r_24A, r_25A, r_26A, r_27A, r_28A, o_29A, g_29_0A, g_29_1A, g_29_2A, g_29_3A, g_29_4A, g_29_5A, g_29_6A, g_29_7A, g_29_8A, g_29_9A, r_30A, r_31A, r_32A, r_33A, r_34A, r_35A, r_36A, o_37A, g_37_0A, g_37_1A, g_37_2A, g_37_3A, g_37_4A, g_37_5A, g_37_6A, g_37_7A, g_37_8A, g_37_9A, r_38A, r_39A, r_40A, r_41A, r_42A, r_43A, r_44A, o_45A, g_45_0A, g_45_1A, g_45_2A, g_45_3A, g_45_4A, g_45_5A, g_45_6A, g_45_7A, g_45_8A, g_45_9A, r_46A, r_47A, r_48A, r_49A, r_50A, r_51A, r_52A, o_53A, g_53_0A, g_53_1A, g_53_2A, g_53_3A, g_53_4A, g_53_5A, g_53_6A, g_53_7A, g_53_8A, g_53_9A, r_54A, r_55A, r_56A, r_57A, r_58A, r_59A, r_60A, Option.bind_some, hR.1.1.1, leN, if_pos (Nat.le_refl n)]
    · intro fuel d m1 l hlo hd hR hlen
      obtain ⟨m2, e2, R2⟩ := inE a b c d ha hbc (by omega) hd m1 l hR hlen
      refine ⟨m2, ?_, R2⟩
      simp (disch := omega) only [l_X0_arrangeRelations_27, o_0A, g_0_0A, g_0_1A, g_0_2A, g_0_3A, g_0_4A, g_0_5A, g_0_6A, g_0_7A, g_0_8A, g_0_9A, g_0_10A, g_0_11A, o_1A, g_1_0A, g_1_1A, g_1_2A, g_1_3A, g_1_4A, g_1_5A, g_1_6A, g_1_7A, g_1_8A, g_1_9A, r_2A, r_3A, r_4A, r_5A, r_6A, r_7A, r_8A, o_9A, g_9_0A, g_9_1A, g_9_2A, g_9_3A, g_9_4A, g_9_5A, g_9_6A, g_9_7A, g_9_8A, g_9_9A, r_10A, r_11A, r_12A, r_13A, r_14A, r_15A, r_16A, o_17A, g_17_0A, g_17_1A, g_17_2A, g_17_3A, g_17_4A, r_18A, r_19A, r_20A, r_22A, r_23A, r_24A, r_25A, r_26A, r_27A, r_28A, o_29A, g_29_0A, g_29_1A, g_29_2A, g_29_3A, g_29_4A, g_29_5A, g_29_6A, g_29_7A, g_29_8A, g_29_9A, r_30A, r_31A, r_32A, r_33A, r_34A, r_35A, r_36A, o_37A, g_37_0A, g_37_1A, g_37_2A, g_37_3A, g_37_4A, g_37_5A, g_37_6A, g_37_7A, g_37_8A, g_37_9A, r_38A, r_39A, r_40A, r_41A, r_42A, r_43A, r_44A, o_45A, g_45_0A, g_45_1A, g_45_2A, g_45_3A, g_45_4A, g_45_5A, g_45_6A, g_45_7A, g_45_8A, g_45_9A, r_46A, r_47A, r_48A, r_49A, r_50A, r_51A, r_52A, o_53A, g_53_0A, g_53_1A, g_53_2A, g_53_3A, g_53_4A, g_53_5A, g_53_6A, g_53_7A, g_53_8A, g_53_9A, r_54A, r_55A, r_56A, r_57A, r_58A, r_59A, r_60A, Option.bind_some, hR.1.1.1, leN, if_neg (show ¬ n ≤ d by omega), add_1, e2]
  have inC : ∀ a b, a < n → b < n → ∀ m1 l, (RR n l m1 ∧ Fr cA m m1 ∧ m1.I 4 = m0.I 4) → (l ++ rC n a b).length ≤ 280 → ∃ m2, l_X0_arrangeRelations_14 1 (nI a) (nI b) FU (nI (b + 1)) (HA m1) = some (HA m2) ∧ RR n (l ++ rC n a b) m2 ∧ Fr cA m m2 ∧ m2.I 4 = m0.I 4 := by
    intro a b ha hb m1 l hR hlen
    refine loopAA (α := List Nat) (fun fuel x h => l_X0_arrangeRelations_14 1 (nI a) (nI b) fuel x h) n 280 (b + 1) (fun c => rD n a b c) (fun l m1 => RR n l m1 ∧ Fr cA m m1 ∧ m1.I 4 = m0.I 4) ?_ ?_ (n - (b + 1)) (b + 1) m1 l FU (Nat.le_refl _) (by omega) (FUx (by omega)) hR hlen
    · intro fuel m1 l hR
      simp (disch := omega) only [l_X0_arrangeRelations_14, o_0A, g_0_0A, g_0_1A, g_0_2A, g_0_3A, g_0_4A, g_0_5A, g_0_6A, g_0_7A, g_0_8A, g_0_9A, g_0_10A, g_0_11A, o_1A, g_1_0A, g_1_1A, g_1_2A, g_1_3A, g_1_4A, g_1_5A, g_1_6A, g_1_7A, g_1_8A, g_1_9A, r_2A, r_3A, r_4A, r_5A, r_6A, r_7A, r_8A, o_9A, g_9_0A, g_9_1A, g_9_2A, g_9_3A, g_9_4A, g_9_5A, g_9_6A, g_9_7A, g_9_8A, g_9_9A, r_10A, r_11A, r_12A, r_13A, r_14A, r_15A, r_16A, o_17A, g_17_0A, g_17_1A, g_17_2A, g_17_3A, g_17_4A, r_18A, r_19A, r_20A, r_22A, r_23A, r_24A, r_25A, r_26A, r_27A, r_28A, o_29A, g_29_0A, g_29_1A, g_29_2A, g_29_3A, g_29_4A, g_29_5A, g_29_6A, g_29_7A, g_29_8A, g_29_9A, r_30A, r_31A, r_32A, r_33A, r_34A, r_35A, r_36A, o_37A, g_37_0A, g_37_1A, g_37_2A, g_37_3A, g_37_4A, g_37_5A, g_37_6A, g_37_7A, g_37_8A, g_37_9A, r_38A, r_39A, r_40A, r_41A, r_42A, r_43A, r_44A, o_45A, g_45_0A, g_45_1A, g_45_2A, g_45_3A, g_45_4A, g_45_5A, g_45_6A, g_45_7A, g_45_8A, g_45_9A, r_46A, r_47A, r_48A, r_49A, r_50A, r_51A, r_52A, o_53A, g_53_0A, g_53_1A, g_53_2A, g_53_3A, g_53_4A, g_53_5A, g_53_6A, g_53_7A, g_53_8A, g_53_9A, r_54A, r_55A, r_56A, r_57A, r_58A, r_59A, r_60A, Option.bind_some, hR.1.1.1, leN, if_pos (Nat.le_refl n)]
    · intro fuel c m1 l hlo hc hR hlen
      obtain ⟨m2, e2, R2⟩ := inD a b c ha (by omega) hc m1 l hR hlen
      refine ⟨m2, ?_, R2⟩
      simp (disch := omega) only [l_X0_arrangeRelations_14, o_0A, g_0_0A, g_0_1A, g_0_2A, g_0_3A, g_0_4A, g_0_5A, g_0_6A, g_0_7A, g_0_8A, g_0_9A, g_0_10A, g_0_11A, o_1A, g_1_0A, g_1_1A, g_1_2A, g_1_3A, g_1_4A, g_1_5A, g_1_6A, g_1_7A, g_1_8A, g_1_9A, r_2A, r_3A, r_4A, r_5A, r_6A, r_7A, r_8A, o_9A, g_9_0A, g_9_1A, g_9_2A, g_9_3A, g_9_4A, g_9_5A, g_9_6A, g_9_7A, g_9_8A, g_9_9A, r_10A, r_11A, r_12A, r_13A, r_14A, r_15A, r_16A, o_17A, g_17_0A, g_17_1A, g_17_2A, g_17_3A, g_17_4A, r_18A, r_19A, r_20A, r_22A, r_23A, r_24A, r_25A, r_26A, r_27A, r_28A, o_29A, g_29_0A, g_29_1A, g_29_2A, g_29_3A, g_29_4A, g_29_5A, g_29_6A, g_29_7A, g_29_8A, g_29_9A, r_30A, r_31A, r_32A, r_33A, r_34A, r_35A, r_36A, o_37A, g_37_0A, g_37_1A, g_37_2A, g_37_3A, g_37_4A, g_37_5A, g_37_6A, g_37_7A, g_37_8A, g_37_9A, r_38A, r_39A, r_40A, r_41A, r_42A, r_43A, r_44A, o_45A, g_45_0A, g_45_1A, g_45_2A, g_45_3A, g_45_4A, g_45_5A, g_45_6A, g_45_7A, g_45_8A, g_45_9A, r_46A, r_47A, r_48A, r_49A, r_50A, r_51A, r_52A, o_53A, g_53_0A, g_53_1A, g_53_2A, g_53_3A, g_53_4A, g_53_5A, g_53_6A, g_53_7A, g_53_8A, g_53_9A, r_54A, r_55A, r_56A, r_57A, r_58A, r_59A, r_60A, Option.bind_some, hR.1.1.1, leN, if_neg (show ¬ n ≤ c by omega), add_1, e2]
  have inB : ∀ a, a < n → ∀ m1 l, (RR n l m1 ∧ Fr cA m m1 ∧ m1.I 4 = m0.I 4) → (l ++ rB n a).length ≤ 280 → ∃ m2, f_X0_arrangeRelations 1 (nI a) (HA m1) = some (HA m2) ∧ RR n (l ++ rB n a) m2 ∧ Fr cA m m2 ∧ m2.I 4 = m0.I 4 := by
    intro a ha m1 l hR hlen
    have go : ∃ m2, l_X0_arrangeRelations_2 1 (nI a) FU (nI 0) (HA m1) = some (HA m2) ∧ RR n (l ++ rB n a) m2 ∧ Fr cA m m2 ∧ m2.I 4 = m0.I 4 := by
      refine loopAA (α := List Nat) (fun fuel x h => l_X0_arrangeRelations_2 1 (nI a) fuel x h) n 280 0 (fun b => rC n a b) (fun l m1 => RR n l m1 ∧ Fr cA m m1 ∧ m1.I 4 = m0.I 4) ?_ ?_ n 0 m1 l FU (Nat.le_refl _) (by omega) (FUx (by omega)) hR hlen
      · intro fuel m1 l hR
        simp (disch := omega) only [l_X0_arrangeRelations_2, o_0A, g_0_0A, g_0_1A, g_0_2A, g_0_3A, g_0_4A, g_0_5A, g_0_6A, g_0_7A, g_0_8A, g_0_9A, g_0_10A, g_0_11A, o_1A, g_1_0A, g_1_1A, g_1_2A, g_1_3A, g_1_4A, g_1_5A, g_1_6A, g_1_7A, g_1_8A, g_1_9A, r_2A, r_3A, r_4A, r_5A, r_6A, r_7A, r_8A, o_9A, g_9_0A, g_9_1A, g_9_2A, g_9_3A, g_9_4A, g_9_5A, g_9_6A, g_9_7A, g_9_8A, g_9_9A, r_10A, r_11A, r_12A, r_13A, r_14A, r_15A, r_16A, o_17A, g_17_0A, g_17_1A, g_17_2A, g_17_3A, g_17_4A, r_18A, r_19A, r_20A, r_22A, r_23A, r_24A, r_25A, r_26A, r_27A, r_28A, o_29A, g_29_0A, g_29_1A, g_29_2A, g_29_3A, g_29_4A, g_29_5A, g_29_6A, g_29_7A, g_29_8A, g_29_9A, r_30A, r_31A, r_32A, r_33A, r_34A, r_35A, r_36A, o_37A, g_37_0A, g_37_1A, g_37_2A, g_37_3A, g_37_4A, g_37_5A, g_37_6A, g_37_7A, g_37_8A, g_37_9A, r_38A, r_39A, r_40A, r_41A, r_42A, r_43A, r_44A, o_45A, g_45_0A, g_45_1A, g_45_2A, g_45_3A, g_45_4A, g_45_5A, g_45_6A, g_45_7A, g_45_8A, g_45_9A, r_46A, r_47A, r_48A, r_49A, r_50A, r_51A, r_52A, o_53A, g_53_0A, g_53_1A, g_53_2A, g_53_3A, g_53_4A, g_53_5A, g_53_6A, g_53_7A, g_53_8A, g_53_9A, r_54A, r_55A, r_56A, r_57A, r_58A, r_59A, r_60A, Option.bind_some, hR.1.1.1, leN, if_pos (Nat.le_refl n)]
      · intro fuel b m1 l hlo hb hR hlen
        obtain ⟨m2, e2, R2⟩ := inC a b ha hb m1 l hR hlen
        refine ⟨m2, ?_, R2⟩
        simp (disch := omega) only [l_X0_arrangeRelations_2, o_0A, g_0_0A, g_0_1A, g_0_2A, g_0_3A, g_0_4A, g_0_5A, g_0_6A, g_0_7A, g_0_8A, g_0_9A, g_0_10A, g_0_11A, o_1A, g_1_0A, g_1_1A, g_1_2A, g_1_3A, g_1_4A, g_1_5A, g_1_6A, g_1_7A, g_1_8A, g_1_9A, r_2A, r_3A, r_4A, r_5A, r_6A, r_7A, r_8A, o_9A, g_9_0A, g_9_1A, g_9_2A, g_9_3A, g_9_4A, g_9_5A, g_9_6A, g_9_7A, g_9_8A, g_9_9A, r_10A, r_11A, r_12A, r_13A, r_14A, r_15A, r_16A, o_17A, g_17_0A, g_17_1A, g_17_2A, g_17_3A, g_17_4A, r_18A, r_19A, r_20A, r_22A, r_23A, r_24A, r_25A, r_26A, r_27A, r_28A, o_29A, g_29_0A, g_29_1A, g_29_2A, g_29_3A, g_29_4A, g_29_5A, g_29_6A, g_29_7A, g_29_8A, g_29_9A, r_30A, r_31A, r_32A, r_33A, r_34A, r_35A, r_36A, o_37A, g_37_0A, g_37_1A, g_37_2A, g_37_3A, g_37_4A, g_37_5A, g_37_6A, g_37_7A, g_37_8A, g_37_9A, r_38A, r_39A, r_40A, r_41A, r_42A, r_43A, r_44A, o_45A, g_45_0A, g_45_1A, g_45_2A, g_45_3A, g_45_4A, g_45_5A, g_45_6A, g_45_7A, g_45_8A, g_45_9A, r_46A, r_47A, r_48A, r_49A, r_50A, r_51A, r_52A, o_53A, g_53_0A, g_53_1A, g_53_2A, g_53_3A, g_53_4A, g_53_5A, g_53_6A, g_53_7A, g_53_8A, g_53_9A, r_54A, r_55A, r_56A, r_57A, r_58A, r_59A, r_60A, Option.bind_some, hR.1.1.1, leN, if_neg (show ¬ n ≤ b by omega), add_1, e2]
    obtain ⟨m2, e2, R2⟩ := go
    refine ⟨m2, ?_, R2⟩
    have e2 : l_X0_arrangeRelations_2 1 (nI a) FU 0 (HA m1) = _ := e2
    simp only [f_X0_arrangeRelations, o_1A, Option.bind_some, e2]
  have go : ∃ m1, l_X0_arrange_16 1 FU (nI 0) (HA (m0.sI 1 2 0)) = some (HA m1) ∧ RR n ([] ++ rA n) m1 ∧ Fr cA m m1 ∧ m1.I 4 = m0.I 4 := by
    refine loopAA (α := List Nat) (fun fuel x h => l_X0_arrange_16 1 fuel x h) n 280 0 (fun a => rB n a) (fun l m1 => RR n l m1 ∧ Fr cA m m1 ∧ m1.I 4 = m0.I 4) ?_ ?_ n 0 (m0.sI 1 2 0) [] FU (Nat.le_refl _) (by omega) (FUx (by omega)) S0 (by show ([] ++ rA n).length ≤ 280; simpa using hB)
    · intro fuel m1 l hR
      simp (disch := omega) only [l_X0_arrange_16, o_0A, g_0_0A, g_0_1A, g_0_2A, g_0_3A, g_0_4A, g_0_5A, g_0_6A, g_0_7A, g_0_8A, g_0_9A, g_0_10A, g_0_11A, o_1A, g_1_0A, g_1_1A, g_1_2A, g_1_3A, g_1_4A, g_1_5A, g_1_6A, g_1_7A, g_1_8A, g_1_9A, r_2A, r_3A, r_4A, r_5A, r_6A, r_7A, r_8A, o_9A, g_9_0A, g_9_1A, g_9_2A, g_9_3A, g_9_4A, g_9_5A, g_9_6A, g_9_7A, g_9_8A, g_9_9A, r_10A, r_11A, r_12A, r_13A, r_14A, r_15A, r_16A, o_17A, g_17_0A, g_17_1A, g_17_2A, g_17_3A, g_17_4A, r_18A, r_19A, r_20A, r_22A, r_23A, r_24A, r_25A, r_26A, r_27A, r_28A, o_29A, g_29_0A, g_29_1A, g_29_2A, g_29_3A, g_29_4A, g_29_5A, g_29_6A, g_29_7A, g_29_8A, g_29_9A, r_30A, r_31A, r_32A, r_33A, r_34A, r_35A, r_36A, o_37A, g_37_0A, g_37_1A, g_37_2A, g_37_3A, g_37_4A, g_37_5A, g_37_6A, g_37_7A, g_37_8A, g_37_9A, r_38A, r_39A, r_40A, r_41A, r_42A, r_43A, r_44A, o_45A, g_45_0A, g_45_1A, g_45_2A, g_45_3A, g_45_4A, g_45_5A, g_45_6A, g_45_7A, g_45_8A, g_45_9A, r_46A, r_47A, r_48A, r_49A, r_50A, r_51A, r_52A, o_53A, g_53_0A, g_53_1A, g_53_2A, g_53_3A, g_53_4A, g_53_5A, g_53_6A, g_53_7A, g_53_8A, g_53_9A, r_54A, r_55A, r_56A, r_57A, r_58A, r_59A, r_60A, Option.bind_some, hR.1.1.1, leN, if_pos (Nat.le_refl n)]
    · intro fuel a m1 l hlo ha hR hlen
      obtain ⟨m2, e2, R2⟩ := inB a ha m1 l hR hlen
      refine ⟨m2, ?_, R2⟩
      simp (disch := omega) only [l_X0_arrange_16, o_0A, g_0_0A, g_0_1A, g_0_2A, g_0_3A, g_0_4A, g_0_5A, g_0_6A, g_0_7A, g_0_8A, g_0_9A, g_0_10A, g_0_11A, o_1A, g_1_0A, g_1_1A, g_1_2A, g_1_3A, g_1_4A, g_1_5A, g_1_6A, g_1_7A, g_1_8A, g_1_9A, r_2A, r_3A, r_4A, r_5A, r_6A, r_7A, r_8A, o_9A, g_9_0A, g_9_1A, g_9_2A, g_9_3A, g_9_4A, g_9_5A, g_9_6A, g_9_7A, g_9_8A, g_9_9A, r_10A, r_11A, r_12A, r_13A, r_14A, r_15A, r_16A, o_17A, g_17_0A, g_17_1A, g_17_2A, g_17_3A, g_17_4A, r_18A, r_19A, r_20A, r_22A, r_23A, r_24A, r_25A, r_26A, r_27A, r_28A, o_29A, g_29_0A, g_29_1A, g_29_2A, g_29_3A, g_29_4A, g_29_5A, g_29_6A, g_29_7A, g_29_8A, g_29_9A, r_30A, r_31A, r_32A, r_33A, r_34A, r_35A, r_36A, o_37A, g_37_0A, g_37_1A, g_37_2A, g_37_3A, g_37_4A, g_37_5A, g_37_6A, g_37_7A, g_37_8A, g_37_9A, r_38A, r_39A, r_40A, r_41A, r_42A, r_43A, r_44A, o_45A, g_45_0A, g_45_1A, g_45_2A, g_45_3A, g_45_4A, g_45_5A, g_45_6A, g_45_7A, g_45_8A, g_45_9A, r_46A, r_47A, r_48A, r_49A, r_50A, r_51A, r_52A, o_53A, g_53_0A, g_53_1A, g_53_2A, g_53_3A, g_53_4A, g_53_5A, g_53_6A, g_53_7A, g_53_8A, g_53_9A, r_54A, r_55A, r_56A, r_57A, r_58A, r_59A, r_60A, Option.bind_some, hR.1.1.1, leN, if_neg (show ¬ n ≤ a by omega), add1, e2]
  obtain ⟨m1, e1, ⟨K1, K2, K3⟩, f1, z1⟩ := go
  rw [List.nil_append, rA_e hn] at K2 K3
  refine ⟨m1, ?_, ⟨K1.1, K1.2.1, K2, K1.2.2.1, K1.2.2.2, fun r hr => K3 r hr⟩, LZ_of R0.2.2.1 z1, f1⟩
  have e1 : l_X0_arrange_16 1 FU 0 (HA (m0.sI 1 2 0)) = _ := e1
  simp only [f_X0_arrange, o_0A, g_0_0A, g_0_1A, g_0_2A, g_0_3A, g_0_4A, p_0_4A, g_0_5A, g_0_6A, g_0_7A, g_0_8A, g_0_9A, g_0_10A, g_0_11A, o_1A, g_1_0A, p_1_0A, g_1_1A, p_1_1A, g_1_2A, p_1_2A, g_1_3A, g_1_4A, g_1_5A, g_1_6A, g_1_7A, g_1_8A, g_1_9A, r_2A, w_2A, r_3A, w_3A, r_4A, w_4A, r_5A, w_5A, r_6A, w_6A, r_7A, w_7A, r_8A, w_8A, o_9A, g_9_0A, p_9_0A, g_9_1A, p_9_1A, g_9_2A, p_9_2A, g_9_3A, g_9_4A, g_9_5A, g_9_6A, g_9_7A, g_9_8A, g_9_9A, r_10A, w_10A, r_11A, w_11A, r_12A, w_12A, r_13A, w_13A, r_14A, w_14A, r_15A, w_15A, r_16A, w_16A, o_17A, g_17_0A, g_17_1A, p_17_1A, g_17_2A, g_17_3A, g_17_4A, p_17_4A, r_18A, w_18A, r_19A, w_19A, r_20A, w_20A, r_22A, w_22A, r_23A, w_23A, r_24A, w_24A, r_25A, w_25A, r_26A, w_26A, r_27A, w_27A, r_28A, w_28A, o_29A, g_29_0A, p_29_0A, g_29_1A, p_29_1A, g_29_2A, p_29_2A, g_29_3A, g_29_4A, g_29_5A, g_29_6A, g_29_7A, g_29_8A, g_29_9A, r_30A, w_30A, r_31A, w_31A, r_32A, w_32A, r_33A, w_33A, r_34A, w_34A, r_35A, w_35A, r_36A, w_36A, o_37A, g_37_0A, p_37_0A, g_37_1A, p_37_1A, g_37_2A, p_37_2A, g_37_3A, g_37_4A, g_37_5A, g_37_6A, g_37_7A, g_37_8A, g_37_9A, r_38A, w_38A, r_39A, w_39A, r_40A, w_40A, r_41A, w_41A, r_42A, w_42A, r_43A, w_43A, r_44A, w_44A, o_45A, g_45_0A, p_45_0A, g_45_1A, p_45_1A, g_45_2A, p_45_2A, g_45_3A, g_45_4A, g_45_5A, g_45_6A, g_45_7A, g_45_8A, g_45_9A, r_46A, w_46A, r_47A, w_47A, r_48A, w_48A, r_49A, w_49A, r_50A, w_50A, r_51A, w_51A, r_52A, w_52A, o_53A, g_53_0A, p_53_0A, g_53_1A, p_53_1A, g_53_2A, p_53_2A, g_53_3A, g_53_4A, g_53_5A, g_53_6A, g_53_7A, g_53_8A, g_53_9A, r_54A, w_54A, r_55A, w_55A, r_56A, w_56A, r_57A, w_57A, r_58A, w_58A, r_59A, w_59A, r_60A, w_60A, Option.bind_some, e0, e1]
theorem c_unkA {m : Mem} {s : Nat → Int32} {M : Nat → Int64} (hs : RS 9 m s M) : ∃ m1, l_X2_clearFor_13 9 FU 0 (HA m) = some (HA m1) ∧ RS 9 m1 (clq s 56) (fun _ => 0) ∧ Fr (cS 9) m m1 := by
  have key : ∃ b, l_X2_clearFor_13 9 FU (nI 0) (HA m) = some b ∧ ∃ m1, b = HA m1 ∧ RS 9 m1 (clq s 56) (fun t => if t < 56 then 0 else M t) ∧ Fr (cS 9) m m1 := by
    refine loopR (fun fuel (a : Int32 × Hp) => l_X2_clearFor_13 9 fuel a.1 a.2) (fun k a => ∃ m1, a = (nI k, HA m1) ∧ RS 9 m1 (clq s k) (fun t => if t < k then 0 else M t) ∧ Fr (cS 9) m m1) _ 56 ?_ ?_ 56 0 (nI 0, HA m) FU (by omega) (FUx (by omega)) ⟨m, rfl, RS_cg hs (fun k _ => by rw [clq_0]) (fun t _ => if_neg (Nat.not_lt_zero t)), Fr_rf _ m⟩
    · rintro k a fuel hk ⟨m1, rfl, hr, hf⟩
      obtain ⟨m2, e2, r2, f2⟩ := c9_unknownA hr (t := k) hk
      refine Or.inl ⟨(nI (k + 1), HA m2), ?_, m2, rfl, ?_, Fr_tr hf f2⟩
      · simp (disch := omega) only [l_X2_clearFor_13, le56, if_neg (show ¬ 56 ≤ k by omega), Option.bind_some, e2, add1]
      · refine RS_cg r2 (fun j _ => by rw [clq_s]) (fun t ht => ?_)
        rw [updL_g]
        by_cases c : t = k
        · rw [if_pos c, if_pos (by omega)]
        · rw [if_neg c]
          exact ifI ⟨fun h => by omega, fun h => by omega⟩
    · rintro a fuel ⟨m1, rfl, hr, hf⟩
      refine ⟨_, ?_, m1, rfl, hr, hf⟩
      simp (disch := omega) only [l_X2_clearFor_13, le56, if_pos (Nat.le_refl 56)]
  obtain ⟨b, e, m1, rfl, hr, hf⟩ := key
  exact ⟨m1, e, RS_cg hr (fun _ _ => rfl) (fun t ht => (if_pos ht).symm), hf⟩
theorem c_fill15A (m : Mem) (v : Int32) : ∃ m1, f_J7_fill_53178 15 v (HA m) = some (HA m1) ∧ (∀ p, p < 8 → m1.I 15 p = v) ∧ Fr (cC 15) m m1 := by
  have key : ∃ b, l_J7_fill_53178_5 15 v (nI 8) FU (nI 0) (HA m) = some b ∧ ∃ m1, b = HA m1 ∧ (∀ p, p < 8 → m1.I 15 p = v) ∧ Fr (cC 15) m m1 := by
    refine loopR (fun fuel (a : Int32 × Hp) => l_J7_fill_53178_5 15 v (nI 8) fuel a.1 a.2) (fun k a => ∃ m1, a = (nI k, HA m1) ∧ (∀ p, p < k → m1.I 15 p = v) ∧ Fr (cC 15) m m1) _ 8 ?_ ?_ 8 0 (nI 0, HA m) FU (by omega) (FUx (by omega)) ⟨m, rfl, fun p hp => absurd hp (Nat.not_lt_zero p), Fr_rf _ m⟩
    · rintro k a fuel hk ⟨m1, rfl, hv, hf⟩
      refine Or.inl ⟨(nI (k + 1), HA (m1.sI 15 k v)), ?_, _, rfl, fun p hp => ?_, Fr_sI hf rfl⟩
      · simp (disch := omega) only [l_J7_fill_53178_5, leN, if_neg (show ¬ 8 ≤ k by omega), o_0A, g_0_0A, g_0_1A, g_0_2A, g_0_3A, g_0_4A, p_0_4A, g_0_5A, g_0_6A, g_0_7A, g_0_8A, g_0_9A, g_0_10A, g_0_11A, o_1A, g_1_0A, p_1_0A, g_1_1A, p_1_1A, g_1_2A, p_1_2A, g_1_3A, g_1_4A, g_1_5A, g_1_6A, g_1_7A, g_1_8A, g_1_9A, r_2A, w_2A, r_3A, w_3A, r_4A, w_4A, r_5A, w_5A, r_6A, w_6A, r_7A, w_7A, r_8A, w_8A, o_9A, g_9_0A, p_9_0A, g_9_1A, p_9_1A, g_9_2A, p_9_2A, g_9_3A, g_9_4A, g_9_5A, g_9_6A, g_9_7A, g_9_8A, g_9_9A, r_10A, w_10A, r_11A, w_11A, r_12A, w_12A, r_13A, w_13A, r_14A, w_14A, r_15A, w_15A, r_16A, w_16A, o_17A, g_17_0A, g_17_1A, p_17_1A, g_17_2A, g_17_3A, g_17_4A, p_17_4A, r_18A, w_18A, r_19A, w_19A, r_20A, w_20A, r_22A, w_22A, r_23A, w_23A, r_24A, w_24A, r_25A, w_25A, r_26A, w_26A, r_27A, w_27A, r_28A, w_28A, o_29A, g_29_0A, p_29_0A, g_29_1A, p_29_1A, g_29_2A, p_29_2A, g_29_3A, g_29_4A, g_29_5A, g_29_6A, g_29_7A, g_29_8A, g_29_9A, r_30A, w_30A, r_31A, w_31A, r_32A, w_32A, r_33A, w_33A, r_34A, w_34A, r_35A, w_35A, r_36A, w_36A, o_37A, g_37_0A, p_37_0A, g_37_1A, p_37_1A, g_37_2A, p_37_2A, g_37_3A, g_37_4A, g_37_5A, g_37_6A, g_37_7A, g_37_8A, g_37_9A, r_38A, w_38A, r_39A, w_39A, r_40A, w_40A, r_41A, w_41A, r_42A, w_42A, r_43A, w_43A, r_44A, w_44A, o_45A, g_45_0A, p_45_0A, g_45_1A, p_45_1A, g_45_2A, p_45_2A, g_45_3A, g_45_4A, g_45_5A, g_45_6A, g_45_7A, g_45_8A, g_45_9A, r_46A, w_46A, r_47A, w_47A, r_48A, w_48A, r_49A, w_49A, r_50A, w_50A, r_51A, w_51A, r_52A, w_52A, o_53A, g_53_0A, p_53_0A, g_53_1A, p_53_1A, g_53_2A, p_53_2A, g_53_3A, g_53_4A, g_53_5A, g_53_6A, g_53_7A, g_53_8A, g_53_9A, r_54A, w_54A, r_55A, w_55A, r_56A, w_56A, r_57A, w_57A, r_58A, w_58A, r_59A, w_59A, r_60A, w_60A, Option.bind_some, add1]
      · rw [sI_at]
        by_cases c : p = k
        · rw [if_pos c]
        · rw [if_neg c]
          exact hv p (by omega)
    · rintro a fuel ⟨m1, rfl, hv, hf⟩
      refine ⟨_, ?_, m1, rfl, hv, hf⟩
      simp (disch := omega) only [l_J7_fill_53178_5, leN, if_pos (Nat.le_refl 8)]
  obtain ⟨b, e, m1, rfl, hv, hf⟩ := key
  refine ⟨m1, ?_, hv, hf⟩
  unfold f_J7_fill_53178
  rw [show aN (HA m) 15 = some (nI 8) from rfl, Option.bind_some, show l_J7_fill_53178_5 15 v (nI 8) FU 0 (HA m) = _ from e, Option.bind_some]
theorem c_fill16A (m : Mem) (v : Int32) : ∃ m1, f_J7_fill_53178 16 v (HA m) = some (HA m1) ∧ (∀ p, p < 8 → m1.I 16 p = v) ∧ Fr (cC 16) m m1 := by
  have key : ∃ b, l_J7_fill_53178_5 16 v (nI 8) FU (nI 0) (HA m) = some b ∧ ∃ m1, b = HA m1 ∧ (∀ p, p < 8 → m1.I 16 p = v) ∧ Fr (cC 16) m m1 := by
    refine loopR (fun fuel (a : Int32 × Hp) => l_J7_fill_53178_5 16 v (nI 8) fuel a.1 a.2) (fun k a => ∃ m1, a = (nI k, HA m1) ∧ (∀ p, p < k → m1.I 16 p = v) ∧ Fr (cC 16) m m1) _ 8 ?_ ?_ 8 0 (nI 0, HA m) FU (by omega) (FUx (by omega)) ⟨m, rfl, fun p hp => absurd hp (Nat.not_lt_zero p), Fr_rf _ m⟩
    · rintro k a fuel hk ⟨m1, rfl, hv, hf⟩
      refine Or.inl ⟨(nI (k + 1), HA (m1.sI 16 k v)), ?_, _, rfl, fun p hp => ?_, Fr_sI hf rfl⟩
      · simp (disch := omega) only [l_J7_fill_53178_5, leN, if_neg (show ¬ 8 ≤ k by omega), o_0A, g_0_0A, g_0_1A, g_0_2A, g_0_3A, g_0_4A, p_0_4A, g_0_5A, g_0_6A, g_0_7A, g_0_8A, g_0_9A, g_0_10A, g_0_11A, o_1A, g_1_0A, p_1_0A, g_1_1A, p_1_1A, g_1_2A, p_1_2A, g_1_3A, g_1_4A, g_1_5A, g_1_6A, g_1_7A, g_1_8A, g_1_9A, r_2A, w_2A, r_3A, w_3A, r_4A, w_4A, r_5A, w_5A, r_6A, w_6A, r_7A, w_7A, r_8A, w_8A, o_9A, g_9_0A, p_9_0A, g_9_1A, p_9_1A, g_9_2A, p_9_2A, g_9_3A, g_9_4A, g_9_5A, g_9_6A, g_9_7A, g_9_8A, g_9_9A, r_10A, w_10A, r_11A, w_11A, r_12A, w_12A, r_13A, w_13A, r_14A, w_14A, r_15A, w_15A, r_16A, w_16A, o_17A, g_17_0A, g_17_1A, p_17_1A, g_17_2A, g_17_3A, g_17_4A, p_17_4A, r_18A, w_18A, r_19A, w_19A, r_20A, w_20A, r_22A, w_22A, r_23A, w_23A, r_24A, w_24A, r_25A, w_25A, r_26A, w_26A, r_27A, w_27A, r_28A, w_28A, o_29A, g_29_0A, p_29_0A, g_29_1A, p_29_1A, g_29_2A, p_29_2A, g_29_3A, g_29_4A, g_29_5A, g_29_6A, g_29_7A, g_29_8A, g_29_9A, r_30A, w_30A, r_31A, w_31A, r_32A, w_32A, r_33A, w_33A, r_34A, w_34A, r_35A, w_35A, r_36A, w_36A, o_37A, g_37_0A, p_37_0A, g_37_1A, p_37_1A, g_37_2A, p_37_2A, g_37_3A, g_37_4A, g_37_5A, g_37_6A, g_37_7A, g_37_8A, g_37_9A, r_38A, w_38A, r_39A, w_39A, r_40A, w_40A, r_41A, w_41A, r_42A, w_42A, r_43A, w_43A, r_44A, w_44A, o_45A, g_45_0A, p_45_0A, g_45_1A, p_45_1A, g_45_2A, p_45_2A, g_45_3A, g_45_4A, g_45_5A, g_45_6A, g_45_7A, g_45_8A, g_45_9A, r_46A, w_46A, r_47A, w_47A, r_48A, w_48A, r_49A, w_49A, r_50A, w_50A, r_51A, w_51A, r_52A, w_52A, o_53A, g_53_0A, p_53_0A, g_53_1A, p_53_1A, g_53_2A, p_53_2A, g_53_3A, g_53_4A, g_53_5A, g_53_6A, g_53_7A, g_53_8A, g_53_9A, r_54A, w_54A, r_55A, w_55A, r_56A, w_56A, r_57A, w_57A, r_58A, w_58A, r_59A, w_59A, r_60A, w_60A, Option.bind_some, add1]
      · rw [sI_at]
        by_cases c : p = k
        · rw [if_pos c]
        · rw [if_neg c]
          exact hv p (by omega)
    · rintro a fuel ⟨m1, rfl, hv, hf⟩
      refine ⟨_, ?_, m1, rfl, hv, hf⟩
      simp (disch := omega) only [l_J7_fill_53178_5, leN, if_pos (Nat.le_refl 8)]
  obtain ⟨b, e, m1, rfl, hv, hf⟩ := key
  refine ⟨m1, ?_, hv, hf⟩
  unfold f_J7_fill_53178
  rw [show aN (HA m) 16 = some (nI 8) from rfl, Option.bind_some, show l_J7_fill_53178_5 16 v (nI 8) FU 0 (HA m) = _ from e, Option.bind_some]
theorem c_clearA {m : Mem} {s : Nat → Int32} {M : Nat → Int64} (hs : RS 9 m s M) (n : Nat) : ∃ m1, f_X2_clearFor 9 (nI n) (HA m) = some (HA m1) ∧ RS 9 m1 (bgR n s) (fun _ => 0) ∧ Fr (cS 9) m m1 := by
  obtain ⟨r1, f1⟩ := RS_p hs (nI n)
  obtain ⟨r2, f2⟩ := c9_clash r1 (-100)
  obtain ⟨m3, e3, r3, f3⟩ := c_unkA r2
  obtain ⟨m4, e4, v4, f4⟩ := c_fill15A m3 (-100)
  obtain ⟨m5, e5, v5, f5⟩ := c_fill16A m4 (-100)
  have f4c : Fr (cS 9) m3 m4 := Fr_w (d := cS 9) f4 (fun a h => by unfold cC at h; unfold cS; omega)
  have f5c : Fr (cS 9) m4 m5 := Fr_w (d := cS 9) f5 (fun a h => by unfold cC at h; unfold cS; omega)
  refine ⟨m5, ?_, ?_, Fr_tr f1 (Fr_tr f2 (Fr_tr f3 (Fr_tr f4c f5c)))⟩
  · simp only [f_X2_clearFor, o_0A, g_0_0A, g_0_1A, g_0_2A, g_0_3A, g_0_4A, p_0_4A, g_0_5A, g_0_6A, g_0_7A, g_0_8A, g_0_9A, g_0_10A, g_0_11A, o_1A, g_1_0A, p_1_0A, g_1_1A, p_1_1A, g_1_2A, p_1_2A, g_1_3A, g_1_4A, g_1_5A, g_1_6A, g_1_7A, g_1_8A, g_1_9A, r_2A, w_2A, r_3A, w_3A, r_4A, w_4A, r_5A, w_5A, r_6A, w_6A, r_7A, w_7A, r_8A, w_8A, o_9A, g_9_0A, p_9_0A, g_9_1A, p_9_1A, g_9_2A, p_9_2A, g_9_3A, g_9_4A, g_9_5A, g_9_6A, g_9_7A, g_9_8A, g_9_9A, r_10A, w_10A, r_11A, w_11A, r_12A, w_12A, r_13A, w_13A, r_14A, w_14A, r_15A, w_15A, r_16A, w_16A, o_17A, g_17_0A, g_17_1A, p_17_1A, g_17_2A, g_17_3A, g_17_4A, p_17_4A, r_18A, w_18A, r_19A, w_19A, r_20A, w_20A, r_22A, w_22A, r_23A, w_23A, r_24A, w_24A, r_25A, w_25A, r_26A, w_26A, r_27A, w_27A, r_28A, w_28A, o_29A, g_29_0A, p_29_0A, g_29_1A, p_29_1A, g_29_2A, p_29_2A, g_29_3A, g_29_4A, g_29_5A, g_29_6A, g_29_7A, g_29_8A, g_29_9A, r_30A, w_30A, r_31A, w_31A, r_32A, w_32A, r_33A, w_33A, r_34A, w_34A, r_35A, w_35A, r_36A, w_36A, o_37A, g_37_0A, p_37_0A, g_37_1A, p_37_1A, g_37_2A, p_37_2A, g_37_3A, g_37_4A, g_37_5A, g_37_6A, g_37_7A, g_37_8A, g_37_9A, r_38A, w_38A, r_39A, w_39A, r_40A, w_40A, r_41A, w_41A, r_42A, w_42A, r_43A, w_43A, r_44A, w_44A, o_45A, g_45_0A, p_45_0A, g_45_1A, p_45_1A, g_45_2A, p_45_2A, g_45_3A, g_45_4A, g_45_5A, g_45_6A, g_45_7A, g_45_8A, g_45_9A, r_46A, w_46A, r_47A, w_47A, r_48A, w_48A, r_49A, w_49A, r_50A, w_50A, r_51A, w_51A, r_52A, w_52A, o_53A, g_53_0A, p_53_0A, g_53_1A, p_53_1A, g_53_2A, p_53_2A, g_53_3A, g_53_4A, g_53_5A, g_53_6A, g_53_7A, g_53_8A, g_53_9A, r_54A, w_54A, r_55A, w_55A, r_56A, w_56A, r_57A, w_57A, r_58A, w_58A, r_59A, w_59A, r_60A, w_60A, Option.bind_some, e3, e4, e5]
  · have o : ∀ x, x ≠ 15 → x ≠ 16 → m5.I x = m3.I x ∧ m5.J x = m3.J x := fun x h1 h2 => ⟨((f5.1 x (by unfold cC; omega)).1).trans (f4.1 x (by unfold cC; omega)).1, ((f5.1 x (by unfold cC; omega)).2).trans (f4.1 x (by unfold cC; omega)).2⟩
    obtain ⟨a0, a1, a2, a3, a4⟩ := r3
    have q : ∀ k, k < 227 → k ≠ 0 → k ≠ 2 → bgR n s k = clq (upd (upd s 0 (nI n)) 2 (-100)) 56 k := by
      intro k hk h0 h2
      unfold bgR clq
      rw [if_neg h0, if_neg h2]
      by_cases c : 3 ≤ k ∧ k < 227
      · rw [if_pos c, if_pos (show 3 ≤ k ∧ k < 3 + 4 * 56 by omega)]
      · rw [if_neg c, if_neg (by omega), if_neg (by omega), upd_g, if_neg h2, upd_g, if_neg h0]
    refine ⟨?_, ?_, ?_, fun t ht => ?_, fun p hp => ⟨?_, ?_⟩⟩
    · rw [(o 9 (by omega) (by omega)).1, a0]
      rfl
    · rw [(o 9 (by omega) (by omega)).1, a1, q 1 (by omega) (by omega) (by omega)]
    · rw [(o 9 (by omega) (by omega)).1, a2]
      rfl
    · rw [(o (9 + 1) (by omega) (by omega)).1, (o (9 + 2) (by omega) (by omega)).1, (o (9 + 3) (by omega) (by omega)).1, (o (9 + 4) (by omega) (by omega)).1, (o (9 + 5) (by omega) (by omega)).2, q _ (by omega) (by omega) (by omega), q _ (by omega) (by omega) (by omega), q _ (by omega) (by omega) (by omega), q _ (by omega) (by omega) (by omega)]
      exact a3 t ht
    · have e : m5.I 15 p = -100 := by rw [(f5.1 15 (by unfold cC; omega)).1]; exact v4 p hp
      show m5.I 15 p = _
      rw [e]
      unfold bgR
      rw [if_neg (by omega), if_neg (by omega), if_neg (by omega), if_pos (by omega)]
    · show m5.I 16 p = _
      rw [v5 p hp]
      unfold bgR
      rw [if_neg (by omega), if_neg (by omega), if_neg (by omega), if_pos (by omega)]
