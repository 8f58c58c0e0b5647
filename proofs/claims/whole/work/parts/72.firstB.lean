/-! the start: the first 77 cells -/
def HB (m : Mem) : Hp := [.inr (3, [.ref 1, .ref 9, .ref 17, .ref 21, .int (m.I 0 4), .ref 22, .ref 23, .ref 24, .ref 25, .ref 26, .ref 27, .ref 28]),
  .inr (0, [.int (m.I 1 0), .int (m.I 1 1), .int (m.I 1 2), .ref 2, .ref 3, .ref 4, .ref 5, .ref 6, .ref 7, .ref 8]),
  .inl (0, (168, .inl (m.I 2))),
  .inl (0, (512, .inl (m.I 3))),
  .inl (0, (512, .inl (m.I 4))),
  .inl (0, (1400, .inl (m.I 5))),
  .inl (0, (1680, .inl (m.I 6))),
  .inl (0, (840, .inl (m.I 7))),
  .inl (1, (280, .inr (.inl (m.J 8)))),
  .inr (2, [.int (m.I 9 0), .int (m.I 9 1), .int (m.I 9 2), .ref 10, .ref 11, .ref 12, .ref 13, .ref 14, .ref 15, .ref 16]),
  .inl (0, (56, .inl (m.I 10))),
  .inl (0, (56, .inl (m.I 11))),
  .inl (0, (56, .inl (m.I 12))),
  .inl (0, (56, .inl (m.I 13))),
  .inl (1, (56, .inr (.inl (m.J 14)))),
  .inl (0, (8, .inl (m.I 15))),
  .inl (0, (8, .inl (m.I 16))),
  .inr (1, [.ref 18, .int (m.I 17 1), .ref 19, .ref 20, .int (m.I 17 4)]),
  .inl (0, (120, .inl (m.I 18))),
  .inl (0, (120, .inl (m.I 19))),
  .inl (0, (360, .inl (m.I 20))),
  .inl (2, (4, .inr (.inr (.inr (.inr fun i => if i < 4 then some (m.V i) else none))))),
  .inl (0, (56, .inl (m.I 22))),
  .inl (0, (10, .inl (m.I 23))),
  .inl (0, (28, .inl (m.I 24))),
  .inl (0, (8, .inl (m.I 25))),
  .inl (0, (8, .inl (m.I 26))),
  .inl (0, (8, .inl (m.I 27))),
  .inl (0, (8, .inl (m.I 28))),
  .inr (2, [.int (m.I 29 0), .int (m.I 29 1), .int (m.I 29 2), .ref 30, .ref 31, .ref 32, .ref 33, .ref 34, .ref 35, .ref 36]),
  .inl (0, (56, .inl (m.I 30))),
  .inl (0, (56, .inl (m.I 31))),
  .inl (0, (56, .inl (m.I 32))),
  .inl (0, (56, .inl (m.I 33))),
  .inl (1, (56, .inr (.inl (m.J 34)))),
  .inl (0, (8, .inl (m.I 35))),
  .inl (0, (8, .inl (m.I 36))),
  .inr (2, [.int (m.I 37 0), .int (m.I 37 1), .int (m.I 37 2), .ref 38, .ref 39, .ref 40, .ref 41, .ref 42, .ref 43, .ref 44]),
  .inl (0, (56, .inl (m.I 38))),
  .inl (0, (56, .inl (m.I 39))),
  .inl (0, (56, .inl (m.I 40))),
  .inl (0, (56, .inl (m.I 41))),
  .inl (1, (56, .inr (.inl (m.J 42)))),
  .inl (0, (8, .inl (m.I 43))),
  .inl (0, (8, .inl (m.I 44))),
  .inr (2, [.int (m.I 45 0), .int (m.I 45 1), .int (m.I 45 2), .ref 46, .ref 47, .ref 48, .ref 49, .ref 50, .ref 51, .ref 52]),
  .inl (0, (56, .inl (m.I 46))),
  .inl (0, (56, .inl (m.I 47))),
  .inl (0, (56, .inl (m.I 48))),
  .inl (0, (56, .inl (m.I 49))),
  .inl (1, (56, .inr (.inl (m.J 50)))),
  .inl (0, (8, .inl (m.I 51))),
  .inl (0, (8, .inl (m.I 52))),
  .inr (2, [.int (m.I 53 0), .int (m.I 53 1), .int (m.I 53 2), .ref 54, .ref 55, .ref 56, .ref 57, .ref 58, .ref 59, .ref 60]),
  .inl (0, (56, .inl (m.I 54))),
  .inl (0, (56, .inl (m.I 55))),
  .inl (0, (56, .inl (m.I 56))),
  .inl (0, (56, .inl (m.I 57))),
  .inl (1, (56, .inr (.inl (m.J 58)))),
  .inl (0, (8, .inl (m.I 59))),
  .inl (0, (8, .inl (m.I 60))),
  .inr (4, [.ref 62, .ref 63, .ref 64, .int (m.I 61 3), .ref 65, .int (m.I 61 5), .int (m.I 61 6), .ref 66, .ref 67, .int (m.I 61 9), .ref 68, .int (m.I 61 11), .int (m.I 61 12), .ref 69, .ref 70, .ref 71, .ref 72, .ref 73, .ref 74, .ref 75, .int (m.I 61 20), .int (m.I 61 21), .ref 76, .long (m.J 61 23)]),
  .inl (0, (243, .inl (m.I 62))),
  .inl (0, (972, .inl (m.I 63))),
  .inl (0, (243, .inl (m.I 64))),
  .inl (0, (120, .inl (m.I 65))),
  .inl (0, (168, .inl (m.I 66))),
  .inl (0, (512, .inl (m.I 67))),
  .inl (0, (1400, .inl (m.I 68))),
  .inl (0, (6, .inl (m.I 69))),
  .inl (0, (6, .inl (m.I 70))),
  .inl (0, (56, .inl (m.I 71))),
  .inl (1, (56, .inr (.inl (m.J 72)))),
  .inl (0, (10, .inl (m.I 73))),
  .inl (0, (28, .inl (m.I 74))),
  .inl (0, (16, .inl (m.I 75))),
  .inl (0, (3, .inl (m.I 76)))]
section MemRowsB
variable (m : Mem)
theorem o_0B : rc 3 (HB m) 0 = some () := rfl
theorem g_0_0B : fR 3 0 (HB m) 0 = some 1 := rfl
theorem g_0_1B : fR 3 1 (HB m) 0 = some 9 := rfl
theorem g_0_2B : fR 3 2 (HB m) 0 = some 17 := rfl
theorem g_0_3B : fR 3 3 (HB m) 0 = some 21 := rfl
theorem g_0_4B : fI 3 4 (HB m) 0 = some (m.I 0 4) := rfl
theorem p_0_4B (x : Int32) : sF 3 4 (.int x) (HB m) 0 = some (HB (m.sI 0 4 x)) := rfl
theorem g_0_5B : fR 3 5 (HB m) 0 = some 22 := rfl
theorem g_0_6B : fR 3 6 (HB m) 0 = some 23 := rfl
theorem g_0_7B : fR 3 7 (HB m) 0 = some 24 := rfl
theorem g_0_8B : fR 3 8 (HB m) 0 = some 25 := rfl
theorem g_0_9B : fR 3 9 (HB m) 0 = some 26 := rfl
theorem g_0_10B : fR 3 10 (HB m) 0 = some 27 := rfl
theorem g_0_11B : fR 3 11 (HB m) 0 = some 28 := rfl
theorem o_1B : rc 0 (HB m) 1 = some () := rfl
theorem g_1_0B : fI 0 0 (HB m) 1 = some (m.I 1 0) := rfl
theorem p_1_0B (x : Int32) : sF 0 0 (.int x) (HB m) 1 = some (HB (m.sI 1 0 x)) := rfl
theorem g_1_1B : fI 0 1 (HB m) 1 = some (m.I 1 1) := rfl
theorem p_1_1B (x : Int32) : sF 0 1 (.int x) (HB m) 1 = some (HB (m.sI 1 1 x)) := rfl
theorem g_1_2B : fI 0 2 (HB m) 1 = some (m.I 1 2) := rfl
theorem p_1_2B (x : Int32) : sF 0 2 (.int x) (HB m) 1 = some (HB (m.sI 1 2 x)) := rfl
theorem g_1_3B : fR 0 3 (HB m) 1 = some 2 := rfl
theorem g_1_4B : fR 0 4 (HB m) 1 = some 3 := rfl
theorem g_1_5B : fR 0 5 (HB m) 1 = some 4 := rfl
theorem g_1_6B : fR 0 6 (HB m) 1 = some 5 := rfl
theorem g_1_7B : fR 0 7 (HB m) 1 = some 6 := rfl
theorem g_1_8B : fR 0 8 (HB m) 1 = some 7 := rfl
theorem g_1_9B : fR 0 9 (HB m) 1 = some 8 := rfl
theorem r_2B {i : Nat} (hi : i < 168) : aI (HB m) 2 (nI i) = some (m.I 2 i) := aI_g (h := HB m) (a := 2) rfl (by decide) hi
theorem w_2B {i : Nat} (hi : i < 168) (x : Int32) : wI (HB m) 2 (nI i) x = some (HB (m.sI 2 i x)) := wI_g (h := HB m) (a := 2) rfl (by decide) hi x
theorem r_3B {i : Nat} (hi : i < 512) : aI (HB m) 3 (nI i) = some (m.I 3 i) := aI_g (h := HB m) (a := 3) rfl (by decide) hi
theorem w_3B {i : Nat} (hi : i < 512) (x : Int32) : wI (HB m) 3 (nI i) x = some (HB (m.sI 3 i x)) := wI_g (h := HB m) (a := 3) rfl (by decide) hi x
theorem r_4B {i : Nat} (hi : i < 512) : aI (HB m) 4 (nI i) = some (m.I 4 i) := aI_g (h := HB m) (a := 4) rfl (by decide) hi
theorem w_4B {i : Nat} (hi : i < 512) (x : Int32) : wI (HB m) 4 (nI i) x = some (HB (m.sI 4 i x)) := wI_g (h := HB m) (a := 4) rfl (by decide) hi x
theorem r_5B {i : Nat} (hi : i < 1400) : aI (HB m) 5 (nI i) = some (m.I 5 i) := aI_g (h := HB m) (a := 5) rfl (by decide) hi
theorem w_5B {i : Nat} (hi : i < 1400) (x : Int32) : wI (HB m) 5 (nI i) x = some (HB (m.sI 5 i x)) := wI_g (h := HB m) (a := 5) rfl (by decide) hi x
theorem r_6B {i : Nat} (hi : i < 1680) : aI (HB m) 6 (nI i) = some (m.I 6 i) := aI_g (h := HB m) (a := 6) rfl (by decide) hi
theorem w_6B {i : Nat} (hi : i < 1680) (x : Int32) : wI (HB m) 6 (nI i) x = some (HB (m.sI 6 i x)) := wI_g (h := HB m) (a := 6) rfl (by decide) hi x
theorem r_7B {i : Nat} (hi : i < 840) : aI (HB m) 7 (nI i) = some (m.I 7 i) := aI_g (h := HB m) (a := 7) rfl (by decide) hi
theorem w_7B {i : Nat} (hi : i < 840) (x : Int32) : wI (HB m) 7 (nI i) x = some (HB (m.sI 7 i x)) := wI_g (h := HB m) (a := 7) rfl (by decide) hi x
theorem r_8B {i : Nat} (hi : i < 280) : aJ (HB m) 8 (nI i) = some (m.J 8 i) := aJ_g (h := HB m) (a := 8) rfl (by decide) hi
theorem w_8B {i : Nat} (hi : i < 280) (x : Int64) : wJ (HB m) 8 (nI i) x = some (HB (m.sJ 8 i x)) := wJ_g (h := HB m) (a := 8) rfl (by decide) hi x
theorem o_9B : rc 2 (HB m) 9 = some () := rfl
theorem g_9_0B : fI 2 0 (HB m) 9 = some (m.I 9 0) := rfl
theorem p_9_0B (x : Int32) : sF 2 0 (.int x) (HB m) 9 = some (HB (m.sI 9 0 x)) := rfl
theorem g_9_1B : fI 2 1 (HB m) 9 = some (m.I 9 1) := rfl
theorem p_9_1B (x : Int32) : sF 2 1 (.int x) (HB m) 9 = some (HB (m.sI 9 1 x)) := rfl
theorem g_9_2B : fI 2 2 (HB m) 9 = some (m.I 9 2) := rfl
theorem p_9_2B (x : Int32) : sF 2 2 (.int x) (HB m) 9 = some (HB (m.sI 9 2 x)) := rfl
theorem g_9_3B : fR 2 3 (HB m) 9 = some 10 := rfl
theorem g_9_4B : fR 2 4 (HB m) 9 = some 11 := rfl
theorem g_9_5B : fR 2 5 (HB m) 9 = some 12 := rfl
theorem g_9_6B : fR 2 6 (HB m) 9 = some 13 := rfl
theorem g_9_7B : fR 2 7 (HB m) 9 = some 14 := rfl
theorem g_9_8B : fR 2 8 (HB m) 9 = some 15 := rfl
theorem g_9_9B : fR 2 9 (HB m) 9 = some 16 := rfl
theorem r_10B {i : Nat} (hi : i < 56) : aI (HB m) 10 (nI i) = some (m.I 10 i) := aI_g (h := HB m) (a := 10) rfl (by decide) hi
theorem w_10B {i : Nat} (hi : i < 56) (x : Int32) : wI (HB m) 10 (nI i) x = some (HB (m.sI 10 i x)) := wI_g (h := HB m) (a := 10) rfl (by decide) hi x
theorem r_11B {i : Nat} (hi : i < 56) : aI (HB m) 11 (nI i) = some (m.I 11 i) := aI_g (h := HB m) (a := 11) rfl (by decide) hi
theorem w_11B {i : Nat} (hi : i < 56) (x : Int32) : wI (HB m) 11 (nI i) x = some (HB (m.sI 11 i x)) := wI_g (h := HB m) (a := 11) rfl (by decide) hi x
theorem r_12B {i : Nat} (hi : i < 56) : aI (HB m) 12 (nI i) = some (m.I 12 i) := aI_g (h := HB m) (a := 12) rfl (by decide) hi
theorem w_12B {i : Nat} (hi : i < 56) (x : Int32) : wI (HB m) 12 (nI i) x = some (HB (m.sI 12 i x)) := wI_g (h := HB m) (a := 12) rfl (by decide) hi x
theorem r_13B {i : Nat} (hi : i < 56) : aI (HB m) 13 (nI i) = some (m.I 13 i) := aI_g (h := HB m) (a := 13) rfl (by decide) hi
theorem w_13B {i : Nat} (hi : i < 56) (x : Int32) : wI (HB m) 13 (nI i) x = some (HB (m.sI 13 i x)) := wI_g (h := HB m) (a := 13) rfl (by decide) hi x
theorem r_14B {i : Nat} (hi : i < 56) : aJ (HB m) 14 (nI i) = some (m.J 14 i) := aJ_g (h := HB m) (a := 14) rfl (by decide) hi
theorem w_14B {i : Nat} (hi : i < 56) (x : Int64) : wJ (HB m) 14 (nI i) x = some (HB (m.sJ 14 i x)) := wJ_g (h := HB m) (a := 14) rfl (by decide) hi x
theorem r_15B {i : Nat} (hi : i < 8) : aI (HB m) 15 (nI i) = some (m.I 15 i) := aI_g (h := HB m) (a := 15) rfl (by decide) hi
theorem w_15B {i : Nat} (hi : i < 8) (x : Int32) : wI (HB m) 15 (nI i) x = some (HB (m.sI 15 i x)) := wI_g (h := HB m) (a := 15) rfl (by decide) hi x
theorem r_16B {i : Nat} (hi : i < 8) : aI (HB m) 16 (nI i) = some (m.I 16 i) := aI_g (h := HB m) (a := 16) rfl (by decide) hi
theorem w_16B {i : Nat} (hi : i < 8) (x : Int32) : wI (HB m) 16 (nI i) x = some (HB (m.sI 16 i x)) := wI_g (h := HB m) (a := 16) rfl (by decide) hi x
theorem o_17B : rc 1 (HB m) 17 = some () := rfl
theorem g_17_0B : fR 1 0 (HB m) 17 = some 18 := rfl
theorem g_17_1B : fI 1 1 (HB m) 17 = some (m.I 17 1) := rfl
theorem p_17_1B (x : Int32) : sF 1 1 (.int x) (HB m) 17 = some (HB (m.sI 17 1 x)) := rfl
theorem g_17_2B : fR 1 2 (HB m) 17 = some 19 := rfl
theorem g_17_3B : fR 1 3 (HB m) 17 = some 20 := rfl
theorem g_17_4B : fI 1 4 (HB m) 17 = some (m.I 17 4) := rfl
theorem p_17_4B (x : Int32) : sF 1 4 (.int x) (HB m) 17 = some (HB (m.sI 17 4 x)) := rfl
theorem r_18B {i : Nat} (hi : i < 120) : aI (HB m) 18 (nI i) = some (m.I 18 i) := aI_g (h := HB m) (a := 18) rfl (by decide) hi
theorem w_18B {i : Nat} (hi : i < 120) (x : Int32) : wI (HB m) 18 (nI i) x = some (HB (m.sI 18 i x)) := wI_g (h := HB m) (a := 18) rfl (by decide) hi x
theorem r_19B {i : Nat} (hi : i < 120) : aI (HB m) 19 (nI i) = some (m.I 19 i) := aI_g (h := HB m) (a := 19) rfl (by decide) hi
theorem w_19B {i : Nat} (hi : i < 120) (x : Int32) : wI (HB m) 19 (nI i) x = some (HB (m.sI 19 i x)) := wI_g (h := HB m) (a := 19) rfl (by decide) hi x
theorem r_20B {i : Nat} (hi : i < 360) : aI (HB m) 20 (nI i) = some (m.I 20 i) := aI_g (h := HB m) (a := 20) rfl (by decide) hi
theorem w_20B {i : Nat} (hi : i < 360) (x : Int32) : wI (HB m) 20 (nI i) x = some (HB (m.sI 20 i x)) := wI_g (h := HB m) (a := 20) rfl (by decide) hi x
theorem r_22B {i : Nat} (hi : i < 56) : aI (HB m) 22 (nI i) = some (m.I 22 i) := aI_g (h := HB m) (a := 22) rfl (by decide) hi
theorem w_22B {i : Nat} (hi : i < 56) (x : Int32) : wI (HB m) 22 (nI i) x = some (HB (m.sI 22 i x)) := wI_g (h := HB m) (a := 22) rfl (by decide) hi x
theorem r_23B {i : Nat} (hi : i < 10) : aI (HB m) 23 (nI i) = some (m.I 23 i) := aI_g (h := HB m) (a := 23) rfl (by decide) hi
theorem w_23B {i : Nat} (hi : i < 10) (x : Int32) : wI (HB m) 23 (nI i) x = some (HB (m.sI 23 i x)) := wI_g (h := HB m) (a := 23) rfl (by decide) hi x
theorem r_24B {i : Nat} (hi : i < 28) : aI (HB m) 24 (nI i) = some (m.I 24 i) := aI_g (h := HB m) (a := 24) rfl (by decide) hi
theorem w_24B {i : Nat} (hi : i < 28) (x : Int32) : wI (HB m) 24 (nI i) x = some (HB (m.sI 24 i x)) := wI_g (h := HB m) (a := 24) rfl (by decide) hi x
theorem r_25B {i : Nat} (hi : i < 8) : aI (HB m) 25 (nI i) = some (m.I 25 i) := aI_g (h := HB m) (a := 25) rfl (by decide) hi
theorem w_25B {i : Nat} (hi : i < 8) (x : Int32) : wI (HB m) 25 (nI i) x = some (HB (m.sI 25 i x)) := wI_g (h := HB m) (a := 25) rfl (by decide) hi x
theorem r_26B {i : Nat} (hi : i < 8) : aI (HB m) 26 (nI i) = some (m.I 26 i) := aI_g (h := HB m) (a := 26) rfl (by decide) hi
theorem w_26B {i : Nat} (hi : i < 8) (x : Int32) : wI (HB m) 26 (nI i) x = some (HB (m.sI 26 i x)) := wI_g (h := HB m) (a := 26) rfl (by decide) hi x
theorem r_27B {i : Nat} (hi : i < 8) : aI (HB m) 27 (nI i) = some (m.I 27 i) := aI_g (h := HB m) (a := 27) rfl (by decide) hi
theorem w_27B {i : Nat} (hi : i < 8) (x : Int32) : wI (HB m) 27 (nI i) x = some (HB (m.sI 27 i x)) := wI_g (h := HB m) (a := 27) rfl (by decide) hi x
theorem r_28B {i : Nat} (hi : i < 8) : aI (HB m) 28 (nI i) = some (m.I 28 i) := aI_g (h := HB m) (a := 28) rfl (by decide) hi
theorem w_28B {i : Nat} (hi : i < 8) (x : Int32) : wI (HB m) 28 (nI i) x = some (HB (m.sI 28 i x)) := wI_g (h := HB m) (a := 28) rfl (by decide) hi x
theorem o_29B : rc 2 (HB m) 29 = some () := rfl
theorem g_29_0B : fI 2 0 (HB m) 29 = some (m.I 29 0) := rfl
theorem p_29_0B (x : Int32) : sF 2 0 (.int x) (HB m) 29 = some (HB (m.sI 29 0 x)) := rfl
theorem g_29_1B : fI 2 1 (HB m) 29 = some (m.I 29 1) := rfl
theorem p_29_1B (x : Int32) : sF 2 1 (.int x) (HB m) 29 = some (HB (m.sI 29 1 x)) := rfl
theorem g_29_2B : fI 2 2 (HB m) 29 = some (m.I 29 2) := rfl
theorem p_29_2B (x : Int32) : sF 2 2 (.int x) (HB m) 29 = some (HB (m.sI 29 2 x)) := rfl
theorem g_29_3B : fR 2 3 (HB m) 29 = some 30 := rfl
theorem g_29_4B : fR 2 4 (HB m) 29 = some 31 := rfl
theorem g_29_5B : fR 2 5 (HB m) 29 = some 32 := rfl
theorem g_29_6B : fR 2 6 (HB m) 29 = some 33 := rfl
theorem g_29_7B : fR 2 7 (HB m) 29 = some 34 := rfl
theorem g_29_8B : fR 2 8 (HB m) 29 = some 35 := rfl
theorem g_29_9B : fR 2 9 (HB m) 29 = some 36 := rfl
theorem r_30B {i : Nat} (hi : i < 56) : aI (HB m) 30 (nI i) = some (m.I 30 i) := aI_g (h := HB m) (a := 30) rfl (by decide) hi
theorem w_30B {i : Nat} (hi : i < 56) (x : Int32) : wI (HB m) 30 (nI i) x = some (HB (m.sI 30 i x)) := wI_g (h := HB m) (a := 30) rfl (by decide) hi x
theorem r_31B {i : Nat} (hi : i < 56) : aI (HB m) 31 (nI i) = some (m.I 31 i) := aI_g (h := HB m) (a := 31) rfl (by decide) hi
theorem w_31B {i : Nat} (hi : i < 56) (x : Int32) : wI (HB m) 31 (nI i) x = some (HB (m.sI 31 i x)) := wI_g (h := HB m) (a := 31) rfl (by decide) hi x
theorem r_32B {i : Nat} (hi : i < 56) : aI (HB m) 32 (nI i) = some (m.I 32 i) := aI_g (h := HB m) (a := 32) rfl (by decide) hi
theorem w_32B {i : Nat} (hi : i < 56) (x : Int32) : wI (HB m) 32 (nI i) x = some (HB (m.sI 32 i x)) := wI_g (h := HB m) (a := 32) rfl (by decide) hi x
theorem r_33B {i : Nat} (hi : i < 56) : aI (HB m) 33 (nI i) = some (m.I 33 i) := aI_g (h := HB m) (a := 33) rfl (by decide) hi
theorem w_33B {i : Nat} (hi : i < 56) (x : Int32) : wI (HB m) 33 (nI i) x = some (HB (m.sI 33 i x)) := wI_g (h := HB m) (a := 33) rfl (by decide) hi x
theorem r_34B {i : Nat} (hi : i < 56) : aJ (HB m) 34 (nI i) = some (m.J 34 i) := aJ_g (h := HB m) (a := 34) rfl (by decide) hi
theorem w_34B {i : Nat} (hi : i < 56) (x : Int64) : wJ (HB m) 34 (nI i) x = some (HB (m.sJ 34 i x)) := wJ_g (h := HB m) (a := 34) rfl (by decide) hi x
theorem r_35B {i : Nat} (hi : i < 8) : aI (HB m) 35 (nI i) = some (m.I 35 i) := aI_g (h := HB m) (a := 35) rfl (by decide) hi
theorem w_35B {i : Nat} (hi : i < 8) (x : Int32) : wI (HB m) 35 (nI i) x = some (HB (m.sI 35 i x)) := wI_g (h := HB m) (a := 35) rfl (by decide) hi x
theorem r_36B {i : Nat} (hi : i < 8) : aI (HB m) 36 (nI i) = some (m.I 36 i) := aI_g (h := HB m) (a := 36) rfl (by decide) hi
theorem w_36B {i : Nat} (hi : i < 8) (x : Int32) : wI (HB m) 36 (nI i) x = some (HB (m.sI 36 i x)) := wI_g (h := HB m) (a := 36) rfl (by decide) hi x
theorem o_37B : rc 2 (HB m) 37 = some () := rfl
theorem g_37_0B : fI 2 0 (HB m) 37 = some (m.I 37 0) := rfl
theorem p_37_0B (x : Int32) : sF 2 0 (.int x) (HB m) 37 = some (HB (m.sI 37 0 x)) := rfl
theorem g_37_1B : fI 2 1 (HB m) 37 = some (m.I 37 1) := rfl
theorem p_37_1B (x : Int32) : sF 2 1 (.int x) (HB m) 37 = some (HB (m.sI 37 1 x)) := rfl
theorem g_37_2B : fI 2 2 (HB m) 37 = some (m.I 37 2) := rfl
theorem p_37_2B (x : Int32) : sF 2 2 (.int x) (HB m) 37 = some (HB (m.sI 37 2 x)) := rfl
theorem g_37_3B : fR 2 3 (HB m) 37 = some 38 := rfl
theorem g_37_4B : fR 2 4 (HB m) 37 = some 39 := rfl
theorem g_37_5B : fR 2 5 (HB m) 37 = some 40 := rfl
theorem g_37_6B : fR 2 6 (HB m) 37 = some 41 := rfl
theorem g_37_7B : fR 2 7 (HB m) 37 = some 42 := rfl
theorem g_37_8B : fR 2 8 (HB m) 37 = some 43 := rfl
theorem g_37_9B : fR 2 9 (HB m) 37 = some 44 := rfl
theorem r_38B {i : Nat} (hi : i < 56) : aI (HB m) 38 (nI i) = some (m.I 38 i) := aI_g (h := HB m) (a := 38) rfl (by decide) hi
theorem w_38B {i : Nat} (hi : i < 56) (x : Int32) : wI (HB m) 38 (nI i) x = some (HB (m.sI 38 i x)) := wI_g (h := HB m) (a := 38) rfl (by decide) hi x
theorem r_39B {i : Nat} (hi : i < 56) : aI (HB m) 39 (nI i) = some (m.I 39 i) := aI_g (h := HB m) (a := 39) rfl (by decide) hi
theorem w_39B {i : Nat} (hi : i < 56) (x : Int32) : wI (HB m) 39 (nI i) x = some (HB (m.sI 39 i x)) := wI_g (h := HB m) (a := 39) rfl (by decide) hi x
theorem r_40B {i : Nat} (hi : i < 56) : aI (HB m) 40 (nI i) = some (m.I 40 i) := aI_g (h := HB m) (a := 40) rfl (by decide) hi
theorem w_40B {i : Nat} (hi : i < 56) (x : Int32) : wI (HB m) 40 (nI i) x = some (HB (m.sI 40 i x)) := wI_g (h := HB m) (a := 40) rfl (by decide) hi x
theorem r_41B {i : Nat} (hi : i < 56) : aI (HB m) 41 (nI i) = some (m.I 41 i) := aI_g (h := HB m) (a := 41) rfl (by decide) hi
theorem w_41B {i : Nat} (hi : i < 56) (x : Int32) : wI (HB m) 41 (nI i) x = some (HB (m.sI 41 i x)) := wI_g (h := HB m) (a := 41) rfl (by decide) hi x
theorem r_42B {i : Nat} (hi : i < 56) : aJ (HB m) 42 (nI i) = some (m.J 42 i) := aJ_g (h := HB m) (a := 42) rfl (by decide) hi
theorem w_42B {i : Nat} (hi : i < 56) (x : Int64) : wJ (HB m) 42 (nI i) x = some (HB (m.sJ 42 i x)) := wJ_g (h := HB m) (a := 42) rfl (by decide) hi x
theorem r_43B {i : Nat} (hi : i < 8) : aI (HB m) 43 (nI i) = some (m.I 43 i) := aI_g (h := HB m) (a := 43) rfl (by decide) hi
theorem w_43B {i : Nat} (hi : i < 8) (x : Int32) : wI (HB m) 43 (nI i) x = some (HB (m.sI 43 i x)) := wI_g (h := HB m) (a := 43) rfl (by decide) hi x
theorem r_44B {i : Nat} (hi : i < 8) : aI (HB m) 44 (nI i) = some (m.I 44 i) := aI_g (h := HB m) (a := 44) rfl (by decide) hi
theorem w_44B {i : Nat} (hi : i < 8) (x : Int32) : wI (HB m) 44 (nI i) x = some (HB (m.sI 44 i x)) := wI_g (h := HB m) (a := 44) rfl (by decide) hi x
theorem o_45B : rc 2 (HB m) 45 = some () := rfl
theorem g_45_0B : fI 2 0 (HB m) 45 = some (m.I 45 0) := rfl
theorem p_45_0B (x : Int32) : sF 2 0 (.int x) (HB m) 45 = some (HB (m.sI 45 0 x)) := rfl
theorem g_45_1B : fI 2 1 (HB m) 45 = some (m.I 45 1) := rfl
theorem p_45_1B (x : Int32) : sF 2 1 (.int x) (HB m) 45 = some (HB (m.sI 45 1 x)) := rfl
theorem g_45_2B : fI 2 2 (HB m) 45 = some (m.I 45 2) := rfl
theorem p_45_2B (x : Int32) : sF 2 2 (.int x) (HB m) 45 = some (HB (m.sI 45 2 x)) := rfl
theorem g_45_3B : fR 2 3 (HB m) 45 = some 46 := rfl
theorem g_45_4B : fR 2 4 (HB m) 45 = some 47 := rfl
theorem g_45_5B : fR 2 5 (HB m) 45 = some 48 := rfl
theorem g_45_6B : fR 2 6 (HB m) 45 = some 49 := rfl
theorem g_45_7B : fR 2 7 (HB m) 45 = some 50 := rfl
theorem g_45_8B : fR 2 8 (HB m) 45 = some 51 := rfl
theorem g_45_9B : fR 2 9 (HB m) 45 = some 52 := rfl
theorem r_46B {i : Nat} (hi : i < 56) : aI (HB m) 46 (nI i) = some (m.I 46 i) := aI_g (h := HB m) (a := 46) rfl (by decide) hi
theorem w_46B {i : Nat} (hi : i < 56) (x : Int32) : wI (HB m) 46 (nI i) x = some (HB (m.sI 46 i x)) := wI_g (h := HB m) (a := 46) rfl (by decide) hi x
theorem r_47B {i : Nat} (hi : i < 56) : aI (HB m) 47 (nI i) = some (m.I 47 i) := aI_g (h := HB m) (a := 47) rfl (by decide) hi
theorem w_47B {i : Nat} (hi : i < 56) (x : Int32) : wI (HB m) 47 (nI i) x = some (HB (m.sI 47 i x)) := wI_g (h := HB m) (a := 47) rfl (by decide) hi x
theorem r_48B {i : Nat} (hi : i < 56) : aI (HB m) 48 (nI i) = some (m.I 48 i) := aI_g (h := HB m) (a := 48) rfl (by decide) hi
theorem w_48B {i : Nat} (hi : i < 56) (x : Int32) : wI (HB m) 48 (nI i) x = some (HB (m.sI 48 i x)) := wI_g (h := HB m) (a := 48) rfl (by decide) hi x
theorem r_49B {i : Nat} (hi : i < 56) : aI (HB m) 49 (nI i) = some (m.I 49 i) := aI_g (h := HB m) (a := 49) rfl (by decide) hi
theorem w_49B {i : Nat} (hi : i < 56) (x : Int32) : wI (HB m) 49 (nI i) x = some (HB (m.sI 49 i x)) := wI_g (h := HB m) (a := 49) rfl (by decide) hi x
theorem r_50B {i : Nat} (hi : i < 56) : aJ (HB m) 50 (nI i) = some (m.J 50 i) := aJ_g (h := HB m) (a := 50) rfl (by decide) hi
theorem w_50B {i : Nat} (hi : i < 56) (x : Int64) : wJ (HB m) 50 (nI i) x = some (HB (m.sJ 50 i x)) := wJ_g (h := HB m) (a := 50) rfl (by decide) hi x
theorem r_51B {i : Nat} (hi : i < 8) : aI (HB m) 51 (nI i) = some (m.I 51 i) := aI_g (h := HB m) (a := 51) rfl (by decide) hi
theorem w_51B {i : Nat} (hi : i < 8) (x : Int32) : wI (HB m) 51 (nI i) x = some (HB (m.sI 51 i x)) := wI_g (h := HB m) (a := 51) rfl (by decide) hi x
theorem r_52B {i : Nat} (hi : i < 8) : aI (HB m) 52 (nI i) = some (m.I 52 i) := aI_g (h := HB m) (a := 52) rfl (by decide) hi
theorem w_52B {i : Nat} (hi : i < 8) (x : Int32) : wI (HB m) 52 (nI i) x = some (HB (m.sI 52 i x)) := wI_g (h := HB m) (a := 52) rfl (by decide) hi x
theorem o_53B : rc 2 (HB m) 53 = some () := rfl
theorem g_53_0B : fI 2 0 (HB m) 53 = some (m.I 53 0) := rfl
theorem p_53_0B (x : Int32) : sF 2 0 (.int x) (HB m) 53 = some (HB (m.sI 53 0 x)) := rfl
theorem g_53_1B : fI 2 1 (HB m) 53 = some (m.I 53 1) := rfl
theorem p_53_1B (x : Int32) : sF 2 1 (.int x) (HB m) 53 = some (HB (m.sI 53 1 x)) := rfl
theorem g_53_2B : fI 2 2 (HB m) 53 = some (m.I 53 2) := rfl
theorem p_53_2B (x : Int32) : sF 2 2 (.int x) (HB m) 53 = some (HB (m.sI 53 2 x)) := rfl
theorem g_53_3B : fR 2 3 (HB m) 53 = some 54 := rfl
theorem g_53_4B : fR 2 4 (HB m) 53 = some 55 := rfl
theorem g_53_5B : fR 2 5 (HB m) 53 = some 56 := rfl
theorem g_53_6B : fR 2 6 (HB m) 53 = some 57 := rfl
theorem g_53_7B : fR 2 7 (HB m) 53 = some 58 := rfl
theorem g_53_8B : fR 2 8 (HB m) 53 = some 59 := rfl
theorem g_53_9B : fR 2 9 (HB m) 53 = some 60 := rfl
theorem r_54B {i : Nat} (hi : i < 56) : aI (HB m) 54 (nI i) = some (m.I 54 i) := aI_g (h := HB m) (a := 54) rfl (by decide) hi
theorem w_54B {i : Nat} (hi : i < 56) (x : Int32) : wI (HB m) 54 (nI i) x = some (HB (m.sI 54 i x)) := wI_g (h := HB m) (a := 54) rfl (by decide) hi x
theorem r_55B {i : Nat} (hi : i < 56) : aI (HB m) 55 (nI i) = some (m.I 55 i) := aI_g (h := HB m) (a := 55) rfl (by decide) hi
theorem w_55B {i : Nat} (hi : i < 56) (x : Int32) : wI (HB m) 55 (nI i) x = some (HB (m.sI 55 i x)) := wI_g (h := HB m) (a := 55) rfl (by decide) hi x
theorem r_56B {i : Nat} (hi : i < 56) : aI (HB m) 56 (nI i) = some (m.I 56 i) := aI_g (h := HB m) (a := 56) rfl (by decide) hi
theorem w_56B {i : Nat} (hi : i < 56) (x : Int32) : wI (HB m) 56 (nI i) x = some (HB (m.sI 56 i x)) := wI_g (h := HB m) (a := 56) rfl (by decide) hi x
theorem r_57B {i : Nat} (hi : i < 56) : aI (HB m) 57 (nI i) = some (m.I 57 i) := aI_g (h := HB m) (a := 57) rfl (by decide) hi
theorem w_57B {i : Nat} (hi : i < 56) (x : Int32) : wI (HB m) 57 (nI i) x = some (HB (m.sI 57 i x)) := wI_g (h := HB m) (a := 57) rfl (by decide) hi x
theorem r_58B {i : Nat} (hi : i < 56) : aJ (HB m) 58 (nI i) = some (m.J 58 i) := aJ_g (h := HB m) (a := 58) rfl (by decide) hi
theorem w_58B {i : Nat} (hi : i < 56) (x : Int64) : wJ (HB m) 58 (nI i) x = some (HB (m.sJ 58 i x)) := wJ_g (h := HB m) (a := 58) rfl (by decide) hi x
theorem r_59B {i : Nat} (hi : i < 8) : aI (HB m) 59 (nI i) = some (m.I 59 i) := aI_g (h := HB m) (a := 59) rfl (by decide) hi
theorem w_59B {i : Nat} (hi : i < 8) (x : Int32) : wI (HB m) 59 (nI i) x = some (HB (m.sI 59 i x)) := wI_g (h := HB m) (a := 59) rfl (by decide) hi x
theorem r_60B {i : Nat} (hi : i < 8) : aI (HB m) 60 (nI i) = some (m.I 60 i) := aI_g (h := HB m) (a := 60) rfl (by decide) hi
theorem w_60B {i : Nat} (hi : i < 8) (x : Int32) : wI (HB m) 60 (nI i) x = some (HB (m.sI 60 i x)) := wI_g (h := HB m) (a := 60) rfl (by decide) hi x
theorem o_61B : rc 4 (HB m) 61 = some () := rfl
theorem g_61_0B : fR 4 0 (HB m) 61 = some 62 := rfl
theorem g_61_1B : fR 4 1 (HB m) 61 = some 63 := rfl
theorem g_61_2B : fR 4 2 (HB m) 61 = some 64 := rfl
theorem g_61_3B : fI 4 3 (HB m) 61 = some (m.I 61 3) := rfl
theorem p_61_3B (x : Int32) : sF 4 3 (.int x) (HB m) 61 = some (HB (m.sI 61 3 x)) := rfl
theorem g_61_4B : fR 4 4 (HB m) 61 = some 65 := rfl
theorem g_61_5B : fI 4 5 (HB m) 61 = some (m.I 61 5) := rfl
theorem p_61_5B (x : Int32) : sF 4 5 (.int x) (HB m) 61 = some (HB (m.sI 61 5 x)) := rfl
theorem g_61_6B : fI 4 6 (HB m) 61 = some (m.I 61 6) := rfl
theorem p_61_6B (x : Int32) : sF 4 6 (.int x) (HB m) 61 = some (HB (m.sI 61 6 x)) := rfl
theorem g_61_7B : fR 4 7 (HB m) 61 = some 66 := rfl
theorem g_61_8B : fR 4 8 (HB m) 61 = some 67 := rfl
theorem g_61_9B : fI 4 9 (HB m) 61 = some (m.I 61 9) := rfl
theorem p_61_9B (x : Int32) : sF 4 9 (.int x) (HB m) 61 = some (HB (m.sI 61 9 x)) := rfl
theorem g_61_10B : fR 4 10 (HB m) 61 = some 68 := rfl
theorem g_61_11B : fI 4 11 (HB m) 61 = some (m.I 61 11) := rfl
theorem p_61_11B (x : Int32) : sF 4 11 (.int x) (HB m) 61 = some (HB (m.sI 61 11 x)) := rfl
theorem g_61_12B : fI 4 12 (HB m) 61 = some (m.I 61 12) := rfl
theorem p_61_12B (x : Int32) : sF 4 12 (.int x) (HB m) 61 = some (HB (m.sI 61 12 x)) := rfl
theorem g_61_13B : fR 4 13 (HB m) 61 = some 69 := rfl
theorem g_61_14B : fR 4 14 (HB m) 61 = some 70 := rfl
theorem g_61_15B : fR 4 15 (HB m) 61 = some 71 := rfl
theorem g_61_16B : fR 4 16 (HB m) 61 = some 72 := rfl
theorem g_61_17B : fR 4 17 (HB m) 61 = some 73 := rfl
theorem g_61_18B : fR 4 18 (HB m) 61 = some 74 := rfl
theorem g_61_19B : fR 4 19 (HB m) 61 = some 75 := rfl
theorem g_61_20B : fI 4 20 (HB m) 61 = some (m.I 61 20) := rfl
theorem p_61_20B (x : Int32) : sF 4 20 (.int x) (HB m) 61 = some (HB (m.sI 61 20 x)) := rfl
theorem g_61_21B : fI 4 21 (HB m) 61 = some (m.I 61 21) := rfl
theorem p_61_21B (x : Int32) : sF 4 21 (.int x) (HB m) 61 = some (HB (m.sI 61 21 x)) := rfl
theorem g_61_22B : fR 4 22 (HB m) 61 = some 76 := rfl
theorem g_61_23B : fJ 4 23 (HB m) 61 = some (m.J 61 23) := rfl
theorem p_61_23B (x : Int64) : sF 4 23 (.long x) (HB m) 61 = some (HB (m.sJ 61 23 x)) := rfl
theorem r_62B {i : Nat} (hi : i < 243) : aI (HB m) 62 (nI i) = some (m.I 62 i) := aI_g (h := HB m) (a := 62) rfl (by decide) hi
theorem w_62B {i : Nat} (hi : i < 243) (x : Int32) : wI (HB m) 62 (nI i) x = some (HB (m.sI 62 i x)) := wI_g (h := HB m) (a := 62) rfl (by decide) hi x
theorem r_63B {i : Nat} (hi : i < 972) : aI (HB m) 63 (nI i) = some (m.I 63 i) := aI_g (h := HB m) (a := 63) rfl (by decide) hi
theorem w_63B {i : Nat} (hi : i < 972) (x : Int32) : wI (HB m) 63 (nI i) x = some (HB (m.sI 63 i x)) := wI_g (h := HB m) (a := 63) rfl (by decide) hi x
theorem r_64B {i : Nat} (hi : i < 243) : aI (HB m) 64 (nI i) = some (m.I 64 i) := aI_g (h := HB m) (a := 64) rfl (by decide) hi
theorem w_64B {i : Nat} (hi : i < 243) (x : Int32) : wI (HB m) 64 (nI i) x = some (HB (m.sI 64 i x)) := wI_g (h := HB m) (a := 64) rfl (by decide) hi x
theorem r_65B {i : Nat} (hi : i < 120) : aI (HB m) 65 (nI i) = some (m.I 65 i) := aI_g (h := HB m) (a := 65) rfl (by decide) hi
theorem w_65B {i : Nat} (hi : i < 120) (x : Int32) : wI (HB m) 65 (nI i) x = some (HB (m.sI 65 i x)) := wI_g (h := HB m) (a := 65) rfl (by decide) hi x
theorem r_66B {i : Nat} (hi : i < 168) : aI (HB m) 66 (nI i) = some (m.I 66 i) := aI_g (h := HB m) (a := 66) rfl (by decide) hi
theorem w_66B {i : Nat} (hi : i < 168) (x : Int32) : wI (HB m) 66 (nI i) x = some (HB (m.sI 66 i x)) := wI_g (h := HB m) (a := 66) rfl (by decide) hi x
theorem r_67B {i : Nat} (hi : i < 512) : aI (HB m) 67 (nI i) = some (m.I 67 i) := aI_g (h := HB m) (a := 67) rfl (by decide) hi
theorem w_67B {i : Nat} (hi : i < 512) (x : Int32) : wI (HB m) 67 (nI i) x = some (HB (m.sI 67 i x)) := wI_g (h := HB m) (a := 67) rfl (by decide) hi x
theorem r_68B {i : Nat} (hi : i < 1400) : aI (HB m) 68 (nI i) = some (m.I 68 i) := aI_g (h := HB m) (a := 68) rfl (by decide) hi
theorem w_68B {i : Nat} (hi : i < 1400) (x : Int32) : wI (HB m) 68 (nI i) x = some (HB (m.sI 68 i x)) := wI_g (h := HB m) (a := 68) rfl (by decide) hi x
theorem r_69B {i : Nat} (hi : i < 6) : aI (HB m) 69 (nI i) = some (m.I 69 i) := aI_g (h := HB m) (a := 69) rfl (by decide) hi
theorem w_69B {i : Nat} (hi : i < 6) (x : Int32) : wI (HB m) 69 (nI i) x = some (HB (m.sI 69 i x)) := wI_g (h := HB m) (a := 69) rfl (by decide) hi x
theorem r_70B {i : Nat} (hi : i < 6) : aI (HB m) 70 (nI i) = some (m.I 70 i) := aI_g (h := HB m) (a := 70) rfl (by decide) hi
theorem w_70B {i : Nat} (hi : i < 6) (x : Int32) : wI (HB m) 70 (nI i) x = some (HB (m.sI 70 i x)) := wI_g (h := HB m) (a := 70) rfl (by decide) hi x
theorem r_71B {i : Nat} (hi : i < 56) : aI (HB m) 71 (nI i) = some (m.I 71 i) := aI_g (h := HB m) (a := 71) rfl (by decide) hi
theorem w_71B {i : Nat} (hi : i < 56) (x : Int32) : wI (HB m) 71 (nI i) x = some (HB (m.sI 71 i x)) := wI_g (h := HB m) (a := 71) rfl (by decide) hi x
theorem r_72B {i : Nat} (hi : i < 56) : aJ (HB m) 72 (nI i) = some (m.J 72 i) := aJ_g (h := HB m) (a := 72) rfl (by decide) hi
theorem w_72B {i : Nat} (hi : i < 56) (x : Int64) : wJ (HB m) 72 (nI i) x = some (HB (m.sJ 72 i x)) := wJ_g (h := HB m) (a := 72) rfl (by decide) hi x
theorem r_73B {i : Nat} (hi : i < 10) : aI (HB m) 73 (nI i) = some (m.I 73 i) := aI_g (h := HB m) (a := 73) rfl (by decide) hi
theorem w_73B {i : Nat} (hi : i < 10) (x : Int32) : wI (HB m) 73 (nI i) x = some (HB (m.sI 73 i x)) := wI_g (h := HB m) (a := 73) rfl (by decide) hi x
theorem r_74B {i : Nat} (hi : i < 28) : aI (HB m) 74 (nI i) = some (m.I 74 i) := aI_g (h := HB m) (a := 74) rfl (by decide) hi
theorem w_74B {i : Nat} (hi : i < 28) (x : Int32) : wI (HB m) 74 (nI i) x = some (HB (m.sI 74 i x)) := wI_g (h := HB m) (a := 74) rfl (by decide) hi x
theorem r_75B {i : Nat} (hi : i < 16) : aI (HB m) 75 (nI i) = some (m.I 75 i) := aI_g (h := HB m) (a := 75) rfl (by decide) hi
theorem w_75B {i : Nat} (hi : i < 16) (x : Int32) : wI (HB m) 75 (nI i) x = some (HB (m.sI 75 i x)) := wI_g (h := HB m) (a := 75) rfl (by decide) hi x
theorem r_76B {i : Nat} (hi : i < 3) : aI (HB m) 76 (nI i) = some (m.I 76 i) := aI_g (h := HB m) (a := 76) rfl (by decide) hi
theorem w_76B {i : Nat} (hi : i < 3) (x : Int32) : wI (HB m) 76 (nI i) x = some (HB (m.sI 76 i x)) := wI_g (h := HB m) (a := 76) rfl (by decide) hi x
end MemRowsB
section Dput_0
variable (m : Mem)
theorem put_0B {t : Nat} (ht : t < 56) (v : Int32) : f_X4_puts 61 (nI t) 0 v (HB m) = some (HB (m.sI 62 (3 + 4 * t) v)) := by
  simp (disch := omega) only [f_X4_puts, mul4, add3, add_0, o_0B, g_0_0B, g_0_1B, g_0_2B, g_0_3B, g_0_4B, p_0_4B, g_0_5B, g_0_6B, g_0_7B, g_0_8B, g_0_9B, g_0_10B, g_0_11B, o_1B, g_1_0B, p_1_0B, g_1_1B, p_1_1B, g_1_2B, p_1_2B, g_1_3B, g_1_4B, g_1_5B, g_1_6B, g_1_7B, g_1_8B, g_1_9B, r_2B, w_2B, r_3B, w_3B, r_4B, w_4B, r_5B, w_5B, r_6B, w_6B, r_7B, w_7B, r_8B, w_8B, o_9B, g_9_0B, p_9_0B, g_9_1B, p_9_1B, g_9_2B, p_9_2B, g_9_3B, g_9_4B, g_9_5B, g_9_6B, g_9_7B, g_9_8B, g_9_9B, r_10B, w_10B, r_11B, w_11B, r_12B, w_12B, r_13B, w_13B, r_14B, w_14B, r_15B, w_15B, r_16B, w_16B, o_17B, g_17_0B, g_17_1B, p_17_1B, g_17_2B, g_17_3B, g_17_4B, p_17_4B, r_18B, w_18B, r_19B, w_19B, r_20B, w_20B, r_22B, w_22B, r_23B, w_23B, r_24B, w_24B, r_25B, w_25B, r_26B, w_26B, r_27B, w_27B, r_28B, w_28B, o_29B, g_29_0B, p_29_0B, g_29_1B, p_29_1B, g_29_2B, p_29_2B, g_29_3B, g_29_4B, g_29_5B, g_29_6B, g_29_7B, g_29_8B, g_29_9B, r_30B, w_30B, r_31B, w_31B, r_32B, w_32B, r_33B, w_33B, r_34B, w_34B, r_35B, w_35B, r_36B, w_36B, o_37B, g_37_0B, p_37_0B, g_37_1B, p_37_1B, g_37_2B, p_37_2B, g_37_3B, g_37_4B, g_37_5B, g_37_6B, g_37_7B, g_37_8B, g_37_9B, r_38B, w_38B, r_39B, w_39B, r_40B, w_40B, r_41B, w_41B, r_42B, w_42B, r_43B, w_43B, r_44B, w_44B, o_45B, g_45_0B, p_45_0B, g_45_1B, p_45_1B, g_45_2B, p_45_2B, g_45_3B, g_45_4B, g_45_5B, g_45_6B, g_45_7B, g_45_8B, g_45_9B, r_46B, w_46B, r_47B, w_47B, r_48B, w_48B, r_49B, w_49B, r_50B, w_50B, r_51B, w_51B, r_52B, w_52B, o_53B, g_53_0B, p_53_0B, g_53_1B, p_53_1B, g_53_2B, p_53_2B, g_53_3B, g_53_4B, g_53_5B, g_53_6B, g_53_7B, g_53_8B, g_53_9B, r_54B, w_54B, r_55B, w_55B, r_56B, w_56B, r_57B, w_57B, r_58B, w_58B, r_59B, w_59B, r_60B, w_60B, o_61B, g_61_0B, g_61_1B, g_61_2B, g_61_3B, p_61_3B, g_61_4B, g_61_5B, p_61_5B, g_61_6B, p_61_6B, g_61_7B, g_61_8B, g_61_9B, p_61_9B, g_61_10B, g_61_11B, p_61_11B, g_61_12B, p_61_12B, g_61_13B, g_61_14B, g_61_15B, g_61_16B, g_61_17B, g_61_18B, g_61_19B, g_61_20B, p_61_20B, g_61_21B, p_61_21B, g_61_22B, g_61_23B, p_61_23B, r_62B, w_62B, r_63B, w_63B, r_64B, w_64B, r_65B, w_65B, r_66B, w_66B, r_67B, w_67B, r_68B, w_68B, r_69B, w_69B, r_70B, w_70B, r_71B, w_71B, r_72B, w_72B, r_73B, w_73B, r_74B, w_74B, r_75B, w_75B, r_76B, w_76B, Option.bind_some]
end Dput_0
section Dput_1
variable (m : Mem)
theorem put_1B {t : Nat} (ht : t < 56) (v : Int32) : f_X4_puts 61 (nI t) 1 v (HB m) = some (HB (m.sI 62 (3 + 4 * t + 1) v)) := by
  simp (disch := omega) only [f_X4_puts, mul4, add3, add_1, o_0B, g_0_0B, g_0_1B, g_0_2B, g_0_3B, g_0_4B, p_0_4B, g_0_5B, g_0_6B, g_0_7B, g_0_8B, g_0_9B, g_0_10B, g_0_11B, o_1B, g_1_0B, p_1_0B, g_1_1B, p_1_1B, g_1_2B, p_1_2B, g_1_3B, g_1_4B, g_1_5B, g_1_6B, g_1_7B, g_1_8B, g_1_9B, r_2B, w_2B, r_3B, w_3B, r_4B, w_4B, r_5B, w_5B, r_6B, w_6B, r_7B, w_7B, r_8B, w_8B, o_9B, g_9_0B, p_9_0B, g_9_1B, p_9_1B, g_9_2B, p_9_2B, g_9_3B, g_9_4B, g_9_5B, g_9_6B, g_9_7B, g_9_8B, g_9_9B, r_10B, w_10B, r_11B, w_11B, r_12B, w_12B, r_13B, w_13B, r_14B, w_14B, r_15B, w_15B, r_16B, w_16B, o_17B, g_17_0B, g_17_1B, p_17_1B, g_17_2B, g_17_3B, g_17_4B, p_17_4B, r_18B, w_18B, r_19B, w_19B, r_20B, w_20B, r_22B, w_22B, r_23B, w_23B, r_24B, w_24B, r_25B, w_25B, r_26B, w_26B, r_27B, w_27B, r_28B, w_28B, o_29B, g_29_0B, p_29_0B, g_29_1B, p_29_1B, g_29_2B, p_29_2B, g_29_3B, g_29_4B, g_29_5B, g_29_6B, g_29_7B, g_29_8B, g_29_9B, r_30B, w_30B, r_31B, w_31B, r_32B, w_32B, r_33B, w_33B, r_34B, w_34B, r_35B, w_35B, r_36B, w_36B, o_37B, g_37_0B, p_37_0B, g_37_1B, p_37_1B, g_37_2B, p_37_2B, g_37_3B, g_37_4B, g_37_5B, g_37_6B, g_37_7B, g_37_8B, g_37_9B, r_38B, w_38B, r_39B, w_39B, r_40B, w_40B, r_41B, w_41B, r_42B, w_42B, r_43B, w_43B, r_44B, w_44B, o_45B, g_45_0B, p_45_0B, g_45_1B, p_45_1B, g_45_2B, p_45_2B, g_45_3B, g_45_4B, g_45_5B, g_45_6B, g_45_7B, g_45_8B, g_45_9B, r_46B, w_46B, r_47B, w_47B, r_48B, w_48B, r_49B, w_49B, r_50B, w_50B, r_51B, w_51B, r_52B, w_52B, o_53B, g_53_0B, p_53_0B, g_53_1B, p_53_1B, g_53_2B, p_53_2B, g_53_3B, g_53_4B, g_53_5B, g_53_6B, g_53_7B, g_53_8B, g_53_9B, r_54B, w_54B, r_55B, w_55B, r_56B, w_56B, r_57B, w_57B, r_58B, w_58B, r_59B, w_59B, r_60B, w_60B, o_61B, g_61_0B, g_61_1B, g_61_2B, g_61_3B, p_61_3B, g_61_4B, g_61_5B, p_61_5B, g_61_6B, p_61_6B, g_61_7B, g_61_8B, g_61_9B, p_61_9B, g_61_10B, g_61_11B, p_61_11B, g_61_12B, p_61_12B, g_61_13B, g_61_14B, g_61_15B, g_61_16B, g_61_17B, g_61_18B, g_61_19B, g_61_20B, p_61_20B, g_61_21B, p_61_21B, g_61_22B, g_61_23B, p_61_23B, r_62B, w_62B, r_63B, w_63B, r_64B, w_64B, r_65B, w_65B, r_66B, w_66B, r_67B, w_67B, r_68B, w_68B, r_69B, w_69B, r_70B, w_70B, r_71B, w_71B, r_72B, w_72B, r_73B, w_73B, r_74B, w_74B, r_75B, w_75B, r_76B, w_76B, Option.bind_some]
end Dput_1
section Dput_2
variable (m : Mem)
theorem put_2B {t : Nat} (ht : t < 56) (v : Int32) : f_X4_puts 61 (nI t) 2 v (HB m) = some (HB (m.sI 62 (3 + 4 * t + 2) v)) := by
  simp (disch := omega) only [f_X4_puts, mul4, add3, add_2, o_0B, g_0_0B, g_0_1B, g_0_2B, g_0_3B, g_0_4B, p_0_4B, g_0_5B, g_0_6B, g_0_7B, g_0_8B, g_0_9B, g_0_10B, g_0_11B, o_1B, g_1_0B, p_1_0B, g_1_1B, p_1_1B, g_1_2B, p_1_2B, g_1_3B, g_1_4B, g_1_5B, g_1_6B, g_1_7B, g_1_8B, g_1_9B, r_2B, w_2B, r_3B, w_3B, r_4B, w_4B, r_5B, w_5B, r_6B, w_6B, r_7B, w_7B, r_8B, w_8B, o_9B, g_9_0B, p_9_0B, g_9_1B, p_9_1B, g_9_2B, p_9_2B, g_9_3B, g_9_4B, g_9_5B, g_9_6B, g_9_7B, g_9_8B, g_9_9B, r_10B, w_10B, r_11B, w_11B, r_12B, w_12B, r_13B, w_13B, r_14B, w_14B, r_15B, w_15B, r_16B, w_16B, o_17B, g_17_0B, g_17_1B, p_17_1B, g_17_2B, g_17_3B, g_17_4B, p_17_4B, r_18B, w_18B, r_19B, w_19B, r_20B, w_20B, r_22B, w_22B, r_23B, w_23B, r_24B, w_24B, r_25B, w_25B, r_26B, w_26B, r_27B, w_27B, r_28B, w_28B, o_29B, g_29_0B, p_29_0B, g_29_1B, p_29_1B, g_29_2B, p_29_2B, g_29_3B, g_29_4B, g_29_5B, g_29_6B, g_29_7B, g_29_8B, g_29_9B, r_30B, w_30B, r_31B, w_31B, r_32B, w_32B, r_33B, w_33B, r_34B, w_34B, r_35B, w_35B, r_36B, w_36B, o_37B, g_37_0B, p_37_0B, g_37_1B, p_37_1B, g_37_2B, p_37_2B, g_37_3B, g_37_4B, g_37_5B, g_37_6B, g_37_7B, g_37_8B, g_37_9B, r_38B, w_38B, r_39B, w_39B, r_40B, w_40B, r_41B, w_41B, r_42B, w_42B, r_43B, w_43B, r_44B, w_44B, o_45B, g_45_0B, p_45_0B, g_45_1B, p_45_1B, g_45_2B, p_45_2B, g_45_3B, g_45_4B, g_45_5B, g_45_6B, g_45_7B, g_45_8B, g_45_9B, r_46B, w_46B, r_47B, w_47B, r_48B, w_48B, r_49B, w_49B, r_50B, w_50B, r_51B, w_51B, r_52B, w_52B, o_53B, g_53_0B, p_53_0B, g_53_1B, p_53_1B, g_53_2B, p_53_2B, g_53_3B, g_53_4B, g_53_5B, g_53_6B, g_53_7B, g_53_8B, g_53_9B, r_54B, w_54B, r_55B, w_55B, r_56B, w_56B, r_57B, w_57B, r_58B, w_58B, r_59B, w_59B, r_60B, w_60B, o_61B, g_61_0B, g_61_1B, g_61_2B, g_61_3B, p_61_3B, g_61_4B, g_61_5B, p_61_5B, g_61_6B, p_61_6B, g_61_7B, g_61_8B, g_61_9B, p_61_9B, g_61_10B, g_61_11B, p_61_11B, g_61_12B, p_61_12B, g_61_13B, g_61_14B, g_61_15B, g_61_16B, g_61_17B, g_61_18B, g_61_19B, g_61_20B, p_61_20B, g_61_21B, p_61_21B, g_61_22B, g_61_23B, p_61_23B, r_62B, w_62B, r_63B, w_63B, r_64B, w_64B, r_65B, w_65B, r_66B, w_66B, r_67B, w_67B, r_68B, w_68B, r_69B, w_69B, r_70B, w_70B, r_71B, w_71B, r_72B, w_72B, r_73B, w_73B, r_74B, w_74B, r_75B, w_75B, r_76B, w_76B, Option.bind_some]
end Dput_2
section Dput_3
variable (m : Mem)
theorem put_3B {t : Nat} (ht : t < 56) (v : Int32) : f_X4_puts 61 (nI t) 3 v (HB m) = some (HB (m.sI 62 (3 + 4 * t + 3) v)) := by
  simp (disch := omega) only [f_X4_puts, mul4, add3, add_3, o_0B, g_0_0B, g_0_1B, g_0_2B, g_0_3B, g_0_4B, p_0_4B, g_0_5B, g_0_6B, g_0_7B, g_0_8B, g_0_9B, g_0_10B, g_0_11B, o_1B, g_1_0B, p_1_0B, g_1_1B, p_1_1B, g_1_2B, p_1_2B, g_1_3B, g_1_4B, g_1_5B, g_1_6B, g_1_7B, g_1_8B, g_1_9B, r_2B, w_2B, r_3B, w_3B, r_4B, w_4B, r_5B, w_5B, r_6B, w_6B, r_7B, w_7B, r_8B, w_8B, o_9B, g_9_0B, p_9_0B, g_9_1B, p_9_1B, g_9_2B, p_9_2B, g_9_3B, g_9_4B, g_9_5B, g_9_6B, g_9_7B, g_9_8B, g_9_9B, r_10B, w_10B, r_11B, w_11B, r_12B, w_12B, r_13B, w_13B, r_14B, w_14B, r_15B, w_15B, r_16B, w_16B, o_17B, g_17_0B, g_17_1B, p_17_1B, g_17_2B, g_17_3B, g_17_4B, p_17_4B, r_18B, w_18B, r_19B, w_19B, r_20B, w_20B, r_22B, w_22B, r_23B, w_23B, r_24B, w_24B, r_25B, w_25B, r_26B, w_26B, r_27B, w_27B, r_28B, w_28B, o_29B, g_29_0B, p_29_0B, g_29_1B, p_29_1B, g_29_2B, p_29_2B, g_29_3B, g_29_4B, g_29_5B, g_29_6B, g_29_7B, g_29_8B, g_29_9B, r_30B, w_30B, r_31B, w_31B, r_32B, w_32B, r_33B, w_33B, r_34B, w_34B, r_35B, w_35B, r_36B, w_36B, o_37B, g_37_0B, p_37_0B, g_37_1B, p_37_1B, g_37_2B, p_37_2B, g_37_3B, g_37_4B, g_37_5B, g_37_6B, g_37_7B, g_37_8B, g_37_9B, r_38B, w_38B, r_39B, w_39B, r_40B, w_40B, r_41B, w_41B, r_42B, w_42B, r_43B, w_43B, r_44B, w_44B, o_45B, g_45_0B, p_45_0B, g_45_1B, p_45_1B, g_45_2B, p_45_2B, g_45_3B, g_45_4B, g_45_5B, g_45_6B, g_45_7B, g_45_8B, g_45_9B, r_46B, w_46B, r_47B, w_47B, r_48B, w_48B, r_49B, w_49B, r_50B, w_50B, r_51B, w_51B, r_52B, w_52B, o_53B, g_53_0B, p_53_0B, g_53_1B, p_53_1B, g_53_2B, p_53_2B, g_53_3B, g_53_4B, g_53_5B, g_53_6B, g_53_7B, g_53_8B, g_53_9B, r_54B, w_54B, r_55B, w_55B, r_56B, w_56B, r_57B, w_57B, r_58B, w_58B, r_59B, w_59B, r_60B, w_60B, o_61B, g_61_0B, g_61_1B, g_61_2B, g_61_3B, p_61_3B, g_61_4B, g_61_5B, p_61_5B, g_61_6B, p_61_6B, g_61_7B, g_61_8B, g_61_9B, p_61_9B, g_61_10B, g_61_11B, p_61_11B, g_61_12B, p_61_12B, g_61_13B, g_61_14B, g_61_15B, g_61_16B, g_61_17B, g_61_18B, g_61_19B, g_61_20B, p_61_20B, g_61_21B, p_61_21B, g_61_22B, g_61_23B, p_61_23B, r_62B, w_62B, r_63B, w_63B, r_64B, w_64B, r_65B, w_65B, r_66B, w_66B, r_67B, w_67B, r_68B, w_68B, r_69B, w_69B, r_70B, w_70B, r_71B, w_71B, r_72B, w_72B, r_73B, w_73B, r_74B, w_74B, r_75B, w_75B, r_76B, w_76B, Option.bind_some]
end Dput_3
section Dm_clears
variable (m : Mem)
theorem m_clearsB {t : Nat} (ht : t < 56) : f_X4_clears 61 (nI t) (HB m) = some (HB (m.rI 62 (clr t (m.I 62)))) := by
  simp (disch := omega) only [f_X4_clears, o_61B, put_0B, put_1B, put_2B, put_3B, Option.bind_some, clr]
  simp only [sI_r, rI_I, rI_rI]
end Dm_clears
theorem loopAB {α : Type} (L : Nat → Int32 → Hp → Option Hp) (n B lo : Nat) (g : Nat → List α) (R : List α → Mem → Prop)
    (stop : ∀ fuel m l, R l m → L (fuel + 1) (nI n) (HB m) = some (HB m))
    (step : ∀ fuel x m l, lo ≤ x → x < n → R l m → (l ++ g x).length ≤ B → ∃ m1, L (fuel + 1) (nI x) (HB m) = L fuel (nI (x + 1)) (HB m1) ∧ R (l ++ g x) m1) :
    ∀ d x m l fuel, lo ≤ x → x + d = n → d < fuel → R l m → (l ++ (List.range' x d).flatMap g).length ≤ B → ∃ m1, L fuel (nI x) (HB m) = some (HB m1) ∧ R (l ++ (List.range' x d).flatMap g) m1 := by
  intro d
  induction d with
  | zero =>
    intro x m l fuel hlo hd hf hR hB
    obtain ⟨f, rfl⟩ : ∃ f, fuel = f + 1 := ⟨fuel - 1, by omega⟩
    have e : x = n := by omega
    subst e
    refine ⟨m, stop f m l hR, ?_⟩
    have : l ++ (List.range' x 0).flatMap g = l := by simp
    rw [this]
    exact hR
  | succ d ih =>
    intro x m l fuel hlo hd hf hR hB
    obtain ⟨f, rfl⟩ : ∃ f, fuel = f + 1 := ⟨fuel - 1, by omega⟩
    have e : l ++ (List.range' x (d + 1)).flatMap g = (l ++ g x) ++ (List.range' (x + 1) d).flatMap g := by
      rw [List.range'_succ]
      simp
    rw [e] at hB ⊢
    have hB2 : (l ++ g x).length ≤ B := by
      rw [List.length_append] at hB
      omega
    obtain ⟨m1, e1, R1⟩ := step f x m l hlo (by omega) hR hB2
    obtain ⟨m2, e2, R2⟩ := ih (x + 1) m1 (l ++ g x) f (by omega) (by omega) (by omega) R1 hB
    exact ⟨m2, e1.trans e2, R2⟩
theorem m_addTB {l : List (Nat × Nat × Nat)} {m : Mem} (hR : RTm l m) (hl : l.length < 56) {i j k n : Nat} (h1 : i < j) (h2 : j < k) (h3 : k < n) (hn : n ≤ 8) (fuel : Nat) : ∃ m1, l_X4_lays_33 61 (nI n) (nI i) (nI j) (fuel + 1) (nI k) (HB m) = l_X4_lays_33 61 (nI n) (nI i) (nI j) fuel (nI (k + 1)) (HB m1) ∧ RTm (l ++ [(i, j, k)]) m1 ∧ fN m m1 := by
  obtain ⟨a1, a2, a3⟩ := hR
  obtain ⟨m1, em1⟩ : ∃ m1, m1 = (((((m.sI 66 (3 * l.length) (nI i)).sI 66 (3 * l.length + 1) (nI j)).sI 66 (3 * l.length + 2) (nI k)).sI 67 (64 * i + 8 * j + k) (nI l.length)).sI 61 9 (nI (l.length + 1))) := ⟨_, rfl⟩
  have b6 : m1.I 66 = upd (upd (upd (m.I 66) (3 * l.length) (nI i)) (3 * l.length + 1) (nI j)) (3 * l.length + 2) (nI k) := by rw [em1]; rfl
  have b7 : m1.I 67 = upd (m.I 67) (64 * i + 8 * j + k) (nI l.length) := by rw [em1]; rfl
  have b1 : m1.I 61 = upd (m.I 61) 9 (nI (l.length + 1)) := by rw [em1]; rfl
  refine ⟨m1, ?_, ⟨?_, ?_, ?_⟩, ?_, ?_⟩
  · have q1 : (m.sI 66 (3 * l.length) (nI i)).I 61 9 = nI l.length := a1
    have q2 : ((m.sI 66 (3 * l.length) (nI i)).sI 66 (3 * l.length + 1) (nI j)).I 61 9 = nI l.length := a1
    have q3 : (((m.sI 66 (3 * l.length) (nI i)).sI 66 (3 * l.length + 1) (nI j)).sI 66 (3 * l.length + 2) (nI k)).I 61 9 = nI l.length := a1
    have q4 : ((((m.sI 66 (3 * l.length) (nI i)).sI 66 (3 * l.length + 1) (nI j)).sI 66 (3 * l.length + 2) (nI k)).sI 67 (64 * i + 8 * j + k) (nI l.length)).I 61 9 = nI l.length := a1
    simp (disch := omega) only [l_X4_lays_33, leN, if_neg (show ¬ n ≤ k by omega), show (3 : Int32) = nI 3 from rfl, show (64 : Int32) = nI 64 from rfl, show (8 : Int32) = nI 8 from rfl, pk_mul, nI_add, add_1, add_2, o_0B, g_0_0B, g_0_1B, g_0_2B, g_0_3B, g_0_4B, p_0_4B, g_0_5B, g_0_6B, g_0_7B, g_0_8B, g_0_9B, g_0_10B, g_0_11B, o_1B, g_1_0B, p_1_0B, g_1_1B, p_1_1B, g_1_2B, p_1_2B, g_1_3B, g_1_4B, g_1_5B, g_1_6B, g_1_7B, g_1_8B, g_1_9B, r_2B, w_2B, r_3B, w_3B, r_4B, w_4B, r_5B, w_5B, r_6B, w_6B, r_7B, w_7B, r_8B, w_8B, o_9B, g_9_0B, p_9_0B, g_9_1B, p_9_1B, g_9_2B, p_9_2B, g_9_3B, g_9_4B, g_9_5B, g_9_6B, g_9_7B, g_9_8B, g_9_9B, r_10B, w_10B, r_11B, w_11B, r_12B, w_12B, r_13B, w_13B, r_14B, w_14B, r_15B, w_15B, r_16B, w_16B, o_17B, g_17_0B, g_17_1B, p_17_1B, g_17_2B, g_17_3B, g_17_4B, p_17_4B, r_18B, w_18B, r_19B, w_19B, r_20B, w_20B, r_22B, w_22B, r_23B, w_23B, r_24B, w_24B, r_25B, w_25B, r_26B, w_26B, r_27B, w_27B, r_28B, w_28B, o_29B, g_29_0B, p_29_0B, g_29_1B, p_29_1B, g_29_2B, p_29_2B, g_29_3B, g_29_4B, g_29_5B, g_29_6B, g_29_7B, g_29_8B, g_29_9B, r_30B, w_30B, r_31B, w_31B, r_32B, w_32B, r_33B, w_33B, r_34B, w_34B, r_35B, w_35B, r_36B, w_36B, o_37B, g_37_0B, p_37_0B, g_37_1B, p_37_1B, g_37_2B, p_37_2B, g_37_3B, g_37_4B, g_37_5B, g_37_6B, g_37_7B, g_37_8B, g_37_9B, r_38B, w_38B, r_39B, w_39B, r_40B, w_40B, r_41B, w_41B, r_42B, w_42B, r_43B, w_43B, r_44B, w_44B, o_45B, g_45_0B, p_45_0B, g_45_1B, p_45_1B, g_45_2B, p_45_2B, g_45_3B, g_45_4B, g_45_5B, g_45_6B, g_45_7B, g_45_8B, g_45_9B, r_46B, w_46B, r_47B, w_47B, r_48B, w_48B, r_49B, w_49B, r_50B, w_50B, r_51B, w_51B, r_52B, w_52B, o_53B, g_53_0B, p_53_0B, g_53_1B, p_53_1B, g_53_2B, p_53_2B, g_53_3B, g_53_4B, g_53_5B, g_53_6B, g_53_7B, g_53_8B, g_53_9B, r_54B, w_54B, r_55B, w_55B, r_56B, w_56B, r_57B, w_57B, r_58B, w_58B, r_59B, w_59B, r_60B, w_60B, o_61B, g_61_0B, g_61_1B, g_61_2B, g_61_3B, p_61_3B, g_61_4B, g_61_5B, p_61_5B, g_61_6B, p_61_6B, g_61_7B, g_61_8B, g_61_9B, p_61_9B, g_61_10B, g_61_11B, p_61_11B, g_61_12B, p_61_12B, g_61_13B, g_61_14B, g_61_15B, g_61_16B, g_61_17B, g_61_18B, g_61_19B, g_61_20B, p_61_20B, g_61_21B, p_61_21B, g_61_22B, g_61_23B, p_61_23B, r_62B, w_62B, r_63B, w_63B, r_64B, w_64B, r_65B, w_65B, r_66B, w_66B, r_67B, w_67B, r_68B, w_68B, r_69B, w_69B, r_70B, w_70B, r_71B, w_71B, r_72B, w_72B, r_73B, w_73B, r_74B, w_74B, r_75B, w_75B, r_76B, w_76B, Option.bind_some, a1, q1, q2, q3, q4]
    rw [← em1]
  · rw [b1, upd_g, if_pos rfl, List.length_append]
    rfl
  · intro t w ht hw
    rw [List.length_append] at ht
    have ht : t < l.length + 1 := ht
    rw [b6, upd_g, upd_g, upd_g]
    by_cases c : t = l.length
    · subst c
      rw [cw_r]
      have : w = 0 ∨ w = 1 ∨ w = 2 := by omega
      rcases this with rfl | rfl | rfl
      · rw [if_neg (by omega), if_neg (by omega), if_pos (by omega), if_pos rfl]
      · rw [if_neg (by omega), if_pos (by omega), if_neg (by omega), if_pos rfl]
      · rw [if_pos (by omega), if_neg (by omega), if_neg (by omega)]
    · rw [if_neg (by omega), if_neg (by omega), if_neg (by omega), cw_l (by omega)]
      exact a2 t w (by omega) hw
  · intro a b c h1' h2' h3' hm
    rw [b7, upd_g, lx_a]
    by_cases cs : (i, j, k) = (a, b, c)
    · rw [if_pos cs]
      simp only [Prod.mk.injEq] at cs
      obtain ⟨rfl, rfl, rfl⟩ := cs
      rw [if_pos rfl]
    · rw [if_neg cs, if_neg]
      · refine a3 a b c h1' h2' h3' ?_
        rcases List.mem_append.mp hm with h | h
        · exact h
        · exact absurd (List.mem_singleton.mp h).symm cs
      · intro e
        apply cs
        have e1 : a = i := by omega
        have e2 : b = j := by omega
        have e3 : c = k := by omega
        rw [e1, e2, e3]
  · rw [em1]
    exact Fr_sI (Fr_sI (Fr_sI (Fr_sI (Fr_sI (Fr_rf _ m) (Or.inr (Or.inl rfl))) (Or.inr (Or.inl rfl))) (Or.inr (Or.inl rfl))) (Or.inr (Or.inr (Or.inl rfl)))) (Or.inl rfl)
  · intro x x9 x11
    rw [b1, upd_g, if_neg x9]
theorem m_laysTB {n : Nat} (hn : n38 n) (m : Mem) : ∃ m1, l_X4_lays_14 61 (nI n) FU 0 (HB (m.sI 61 9 0)) = some (HB m1) ∧ RTm (trips n) m1 ∧ fN m m1 := by
  have h8 := hn.2
  have hB : (tI n).length ≤ 56 := by rw [tI_e hn]; exact nT_le hn
  have R0 : RTm [] (m.sI 61 9 0) ∧ fN m (m.sI 61 9 0) := ⟨⟨rfl, fun t w ht => absurd ht (Nat.not_lt_zero t), fun a b c _ _ _ h => absurd h (by simp)⟩, Fr_sI (Fr_rf _ m) (Or.inl rfl), fun k k9 _ => by rw [sI_at, if_neg k9]⟩
  have inK : ∀ i j, i < j → j < n → ∀ m1 l, (RTm l m1 ∧ fN m m1) → (l ++ tK n i j).length ≤ 56 → ∃ m2, l_X4_lays_33 61 (nI n) (nI i) (nI j) FU (nI (j + 1)) (HB m1) = some (HB m2) ∧ RTm (l ++ tK n i j) m2 ∧ fN m m2 := by
    intro i j hij hj m1 l hR hlen
    refine loopAB (α := Nat × Nat × Nat) (fun fuel x h => l_X4_lays_33 61 (nI n) (nI i) (nI j) fuel x h) n 56 (j + 1) (fun k => [(i, j, k)]) (fun l m1 => RTm l m1 ∧ fN m m1) ?_ ?_ (n - (j + 1)) (j + 1) m1 l FU (Nat.le_refl _) (by omega) (FUx (by omega)) hR hlen
    · intro fuel m1 l hR
      simp (disch := omega) only [l_X4_lays_33, leN, if_pos (Nat.le_refl n)]
    · intro fuel k m1 l hlo hk hR hlen
      rw [List.length_append] at hlen
      have hlen : l.length + 1 ≤ 56 := hlen
      obtain ⟨m2, e2, R2, f2⟩ := m_addTB hR.1 (by omega) hij (show j < k by omega) hk h8 fuel
      exact ⟨m2, e2, R2, fN_tr hR.2 f2⟩
  have inJ : ∀ i, i < n → ∀ m1 l, (RTm l m1 ∧ fN m m1) → (l ++ tJ n i).length ≤ 56 → ∃ m2, l_X4_lays_23 61 (nI n) (nI i) FU (nI (i + 1)) (HB m1) = some (HB m2) ∧ RTm (l ++ tJ n i) m2 ∧ fN m m2 := by
    intro i hi m1 l hR hlen
    refine loopAB (α := Nat × Nat × Nat) (fun fuel x h => l_X4_lays_23 61 (nI n) (nI i) fuel x h) n 56 (i + 1) (fun j => tK n i j) (fun l m1 => RTm l m1 ∧ fN m m1) ?_ ?_ (n - (i + 1)) (i + 1) m1 l FU (Nat.le_refl _) (by omega) (FUx (by omega)) hR hlen
    · intro fuel m1 l hR
      simp (disch := omega) only [l_X4_lays_23, leN, if_pos (Nat.le_refl n)]
    · intro fuel j m1 l hlo hj hR hlen
      obtain ⟨m2, e2, R2⟩ := inK i j (by omega) hj m1 l hR hlen
      refine ⟨m2, ?_, R2⟩
      simp (disch := omega) only [l_X4_lays_23, Option.bind_some, leN, if_neg (show ¬ n ≤ j by omega), add_1, e2]
  have go : ∃ m1, l_X4_lays_14 61 (nI n) FU (nI 0) (HB (m.sI 61 9 0)) = some (HB m1) ∧ RTm ([] ++ tI n) m1 ∧ fN m m1 := by
    refine loopAB (α := Nat × Nat × Nat) (fun fuel x h => l_X4_lays_14 61 (nI n) fuel x h) n 56 0 (fun i => tJ n i) (fun l m1 => RTm l m1 ∧ fN m m1) ?_ ?_ n 0 (m.sI 61 9 0) [] FU (Nat.le_refl _) (by omega) (FUx (by omega)) R0 (by show ([] ++ tI n).length ≤ 56; simpa using hB)
    · intro fuel m1 l hR
      simp (disch := omega) only [l_X4_lays_14, leN, if_pos (Nat.le_refl n)]
    · intro fuel i m1 l hlo hi hR hlen
      obtain ⟨m2, e2, R2⟩ := inJ i hi m1 l hR hlen
      refine ⟨m2, ?_, R2⟩
      simp (disch := omega) only [l_X4_lays_14, Option.bind_some, leN, if_neg (show ¬ n ≤ i by omega), add_1, e2]
  rw [List.nil_append, tI_e hn] at go
  exact go
theorem m_addRB {l : List (List Nat)} {m : Mem} (hR : RRm l m) (hl : l.length < 280) (a b c d e : Nat) : ∃ m1, ((fR 4 10 (HB m) 61).bind fun v14 => (fI 4 11 (HB m) 61).bind fun v15 => (wI (HB m) v14 ((5 : Int32) * v15) (nI a)).bind fun h16 => (fR 4 10 h16 61).bind fun v17 => (fI 4 11 h16 61).bind fun v18 => (wI h16 v17 (((5 : Int32) * v18) + (1 : Int32)) (nI b)).bind fun h19 => (fR 4 10 h19 61).bind fun v20 => (fI 4 11 h19 61).bind fun v21 => (wI h19 v20 (((5 : Int32) * v21) + (2 : Int32)) (nI c)).bind fun h22 => (fR 4 10 h22 61).bind fun v23 => (fI 4 11 h22 61).bind fun v24 => (wI h22 v23 (((5 : Int32) * v24) + (3 : Int32)) (nI d)).bind fun h25 => (fR 4 10 h25 61).bind fun v26 => (fI 4 11 h25 61).bind fun v27 => (wI h25 v26 (((5 : Int32) * v27) + (4 : Int32)) (nI e)).bind fun h28 => (fI 4 11 h28 61).bind fun v29 => (sF 4 11 (.int (v29 + (1 : Int32))) h28 61).bind fun h30 => some h30) = some (HB m1) ∧ RRm (l ++ [[a, b, c, d, e]]) m1 ∧ fN m m1 ∧ (∀ x, x ≠ 61 → x ≠ 68 → m1.I x = m.I x) ∧ m1.I 61 9 = m.I 61 9 := by
  obtain ⟨a1, a2⟩ := hR
  obtain ⟨m1, em1⟩ : ∃ m1, m1 = ((((((m.sI 68 (5 * l.length) (nI a)).sI 68 (5 * l.length + 1) (nI b)).sI 68 (5 * l.length + 2) (nI c)).sI 68 (5 * l.length + 3) (nI d)).sI 68 (5 * l.length + 4) (nI e)).sI 61 11 (nI (l.length + 1))) := ⟨_, rfl⟩
  have b8 : m1.I 68 = upd (upd (upd (upd (upd (m.I 68) (5 * l.length) (nI a)) (5 * l.length + 1) (nI b)) (5 * l.length + 2) (nI c)) (5 * l.length + 3) (nI d)) (5 * l.length + 4) (nI e) := by rw [em1]; rfl
  have b1 : m1.I 61 = upd (m.I 61) 11 (nI (l.length + 1)) := by rw [em1]; rfl
  refine ⟨m1, ?_, ⟨?_, ?_⟩, ⟨?_, ?_⟩, ?_, ?_⟩
  · have q1 : (m.sI 68 (5 * l.length) (nI a)).I 61 11 = nI l.length := a1
    have q2 : ((m.sI 68 (5 * l.length) (nI a)).sI 68 (5 * l.length + 1) (nI b)).I 61 11 = nI l.length := a1
    have q3 : (((m.sI 68 (5 * l.length) (nI a)).sI 68 (5 * l.length + 1) (nI b)).sI 68 (5 * l.length + 2) (nI c)).I 61 11 = nI l.length := a1
    have q4 : ((((m.sI 68 (5 * l.length) (nI a)).sI 68 (5 * l.length + 1) (nI b)).sI 68 (5 * l.length + 2) (nI c)).sI 68 (5 * l.length + 3) (nI d)).I 61 11 = nI l.length := a1
    have q5 : (((((m.sI 68 (5 * l.length) (nI a)).sI 68 (5 * l.length + 1) (nI b)).sI 68 (5 * l.length + 2) (nI c)).sI 68 (5 * l.length + 3) (nI d)).sI 68 (5 * l.length + 4) (nI e)).I 61 11 = nI l.length := a1
    simp (disch := omega) only [show (5 : Int32) = nI 5 from rfl, pk_mul, add_1, add_2, add_3, show nI (5 * l.length) + (4 : Int32) = nI (5 * l.length + 4) from nI_add _ 4, o_0B, g_0_0B, g_0_1B, g_0_2B, g_0_3B, g_0_4B, p_0_4B, g_0_5B, g_0_6B, g_0_7B, g_0_8B, g_0_9B, g_0_10B, g_0_11B, o_1B, g_1_0B, p_1_0B, g_1_1B, p_1_1B, g_1_2B, p_1_2B, g_1_3B, g_1_4B, g_1_5B, g_1_6B, g_1_7B, g_1_8B, g_1_9B, r_2B, w_2B, r_3B, w_3B, r_4B, w_4B, r_5B, w_5B, r_6B, w_6B, r_7B, w_7B, r_8B, w_8B, o_9B, g_9_0B, p_9_0B, g_9_1B, p_9_1B, g_9_2B, p_9_2B, g_9_3B, g_9_4B, g_9_5B, g_9_6B, g_9_7B, g_9_8B, g_9_9B, r_10B, w_10B, r_11B, w_11B, r_12B, w_12B, r_13B, w_13B, r_14B, w_14B, r_15B, w_15B, r_16B, w_16B, o_17B, g_17_0B, g_17_1B, p_17_1B, g_17_2B, g_17_3B, g_17_4B, p_17_4B, r_18B, w_18B, r_19B, w_19B, r_20B, w_20B, r_22B, w_22B, r_23B, w_23B, r_24B, w_24B, r_25B, w_25B, r_26B, w_26B, r_27B, w_27B, r_28B, w_28B, o_29B, g_29_0B, p_29_0B, g_29_1B, p_29_1B, g_29_2B, p_29_2B, g_29_3B, g_29_4B, g_29_5B, g_29_6B, g_29_7B, g_29_8B, g_29_9B, r_30B, w_30B, r_31B, w_31B, r_32B, w_32B, r_33B, w_33B, r_34B, w_34B, r_35B, w_35B, r_36B, w_36B, o_37B, g_37_0B, p_37_0B, g_37_1B, p_37_1B, g_37_2B, p_37_2B, g_37_3B, g_37_4B, g_37_5B, g_37_6B, g_37_7B, g_37_8B, g_37_9B, r_38B, w_38B, r_39B, w_39B, r_40B, w_40B, r_41B, w_41B, r_42B, w_42B, r_43B, w_43B, r_44B, w_44B, o_45B, g_45_0B, p_45_0B, g_45_1B, p_45_1B, g_45_2B, p_45_2B, g_45_3B, g_45_4B, g_45_5B, g_45_6B, g_45_7B, g_45_8B, g_45_9B, r_46B, w_46B, r_47B, w_47B, r_48B, w_48B, r_49B, w_49B, r_50B, w_50B, r_51B, w_51B, r_52B, w_52B, o_53B, g_53_0B, p_53_0B, g_53_1B, p_53_1B, g_53_2B, p_53_2B, g_53_3B, g_53_4B, g_53_5B, g_53_6B, g_53_7B, g_53_8B, g_53_9B, r_54B, w_54B, r_55B, w_55B, r_56B, w_56B, r_57B, w_57B, r_58B, w_58B, r_59B, w_59B, r_60B, w_60B, o_61B, g_61_0B, g_61_1B, g_61_2B, g_61_3B, p_61_3B, g_61_4B, g_61_5B, p_61_5B, g_61_6B, p_61_6B, g_61_7B, g_61_8B, g_61_9B, p_61_9B, g_61_10B, g_61_11B, p_61_11B, g_61_12B, p_61_12B, g_61_13B, g_61_14B, g_61_15B, g_61_16B, g_61_17B, g_61_18B, g_61_19B, g_61_20B, p_61_20B, g_61_21B, p_61_21B, g_61_22B, g_61_23B, p_61_23B, r_62B, w_62B, r_63B, w_63B, r_64B, w_64B, r_65B, w_65B, r_66B, w_66B, r_67B, w_67B, r_68B, w_68B, r_69B, w_69B, r_70B, w_70B, r_71B, w_71B, r_72B, w_72B, r_73B, w_73B, r_74B, w_74B, r_75B, w_75B, r_76B, w_76B, Option.bind_some, a1, q1, q2, q3, q4, q5]
    rw [← em1]
  · rw [b1, upd_g, if_pos rfl, List.length_append]
    rfl
  · intro r w hr hw
    rw [List.length_append] at hr
    have hr : r < l.length + 1 := hr
    rw [b8]
    by_cases cr : r = l.length
    · subst cr
      rw [getD_r]
      have : w = 0 ∨ w = 1 ∨ w = 2 ∨ w = 3 ∨ w = 4 := by omega
      rcases this with rfl | rfl | rfl | rfl | rfl
      · rw [upd_g, if_neg (by omega), upd_g, if_neg (by omega), upd_g, if_neg (by omega), upd_g, if_neg (by omega), upd_g, if_pos (by omega)]
        rfl
      · rw [upd_g, if_neg (by omega), upd_g, if_neg (by omega), upd_g, if_neg (by omega), upd_g, if_pos (by omega)]
        rfl
      · rw [upd_g, if_neg (by omega), upd_g, if_neg (by omega), upd_g, if_pos (by omega)]
        rfl
      · rw [upd_g, if_neg (by omega), upd_g, if_pos (by omega)]
        rfl
      · rw [upd_g, if_pos (by omega)]
        rfl
    · rw [getD_l (by omega), upd_g, if_neg (by omega), upd_g, if_neg (by omega), upd_g, if_neg (by omega), upd_g, if_neg (by omega), upd_g, if_neg (by omega)]
      exact a2 r w (by omega) hw
  · rw [em1]
    exact Fr_sI (Fr_sI (Fr_sI (Fr_sI (Fr_sI (Fr_sI (Fr_rf _ m) (Or.inr (Or.inr (Or.inr rfl)))) (Or.inr (Or.inr (Or.inr rfl)))) (Or.inr (Or.inr (Or.inr rfl)))) (Or.inr (Or.inr (Or.inr rfl)))) (Or.inr (Or.inr (Or.inr rfl)))) (Or.inl rfl)
  · intro x x9 x11
    rw [b1, upd_g, if_neg x11]
  · intro x h1 h8
    rw [em1, sI_I, if_neg h1, sI_I, if_neg h8, sI_I, if_neg h8, sI_I, if_neg h8, sI_I, if_neg h8, sI_I, if_neg h8]
  · rw [b1, upd_g, if_neg (by omega)]
theorem m_laysRB {n : Nat} (hn : n38 n) {m0 : Mem} (h0 : m0.I 62 0 = nI n) : ∃ m1, l_X4_lays_136 61 (nI n) FU 0 (HB (m0.sI 61 11 0)) = some (HB m1) ∧ RRm (rels n) m1 ∧ kN m0 m1 := by
  have h8 := hn.2
  have hB : (mA n).length ≤ 280 := by rw [mA_e hn]; exact nR_le hn
  have S0 : RRm [] (m0.sI 61 11 0) ∧ kN m0 (m0.sI 61 11 0) := ⟨⟨rfl, fun r w hr => absurd hr (Nat.not_lt_zero r)⟩, ⟨Fr_sI (Fr_rf _ m0) (Or.inl rfl), fun k _ k11 => by rw [sI_at, if_neg k11]⟩, fun x x1 _ => by rw [sI_I, if_neg x1], by rw [sI_at, if_neg (by omega)]⟩
  have inE : ∀ a b c d, a < n → d < n → a ≠ d → ∀ m1 l, (RRm l m1 ∧ kN m0 m1) → (l ++ mE n a b c d).length ≤ 280 → ∃ m2, l_X4_laysFrom_47 61 (nI a) (nI b) (nI n) (nI c) (nI d) FU (nI (d + 1)) (HB m1) = some (HB m2) ∧ RRm (l ++ mE n a b c d) m2 ∧ kN m0 m2 := by
    intro a b c d ha hd nad m1 l hR hlen
    refine loopAB (α := List Nat) (fun fuel x h => l_X4_laysFrom_47 61 (nI a) (nI b) (nI n) (nI c) (nI d) fuel x h) n 280 (d + 1) (fun e => if a = e then [] else [[a, b, c, d, e]]) (fun l m1 => RRm l m1 ∧ kN m0 m1) ?_ ?_ (n - (d + 1)) (d + 1) m1 l FU (Nat.le_refl _) (by omega) (FUx (by omega)) hR hlen
    · intro fuel m1 l hR
      simp (disch := omega) only [l_X4_laysFrom_47, leN, if_pos (Nat.le_refl n)]
    · intro fuel e m1 l hlo he hR hlen
      have hlen := len_snoc hlen
      rw [l_X4_laysFrom_47, if_neg (show ¬ nI n ≤ nI e from fun q => by rw [nI_leI (by omega) (by omega)] at q; omega), if_neg (fun q => nad ((ne_of hn ha hd).mp q))]
      by_cases c4 : a = e
      · rw [if_pos (by rw [c4]), if_pos c4, List.append_nil, Option.bind_some, add_1]
        exact ⟨m1, rfl, hR⟩
      · rw [if_neg (fun q => c4 ((ne_of hn ha he).mp q)), if_neg c4]
        rw [if_neg c4] at hlen
        have hlen : l.length + 1 ≤ 280 := hlen
        obtain ⟨m2, e2, R2, f2, z2, y2⟩ := m_addRB hR.1 (by omega) a b c d e
        refine ⟨m2, ?_, R2, kN_tr hR.2 ⟨f2, z2, y2⟩⟩
        rw [e2, Option.bind_some, add_1]
  have inD : ∀ a b c, a < n → c < n → a ≠ c → ∀ m1 l, (RRm l m1 ∧ kN m0 m1) → (l ++ mD n a b c).length ≤ 280 → ∃ m2, l_X4_laysFrom_29 61 (nI a) (nI b) (nI n) (nI c) FU (nI (c + 1)) (HB m1) = some (HB m2) ∧ RRm (l ++ mD n a b c) m2 ∧ kN m0 m2 := by
    intro a b c ha hc nac m1 l hR hlen
    refine loopAB (α := List Nat) (fun fuel x h => l_X4_laysFrom_29 61 (nI a) (nI b) (nI n) (nI c) fuel x h) n 280 (c + 1) (fun d => if a = d then [] else mE n a b c d) (fun l m1 => RRm l m1 ∧ kN m0 m1) ?_ ?_ (n - (c + 1)) (c + 1) m1 l FU (Nat.le_refl _) (by omega) (FUx (by omega)) hR hlen
    · intro fuel m1 l hR
      simp (disch := omega) only [l_X4_laysFrom_29, leN, if_pos (Nat.le_refl n)]
    · intro fuel d m1 l hlo hd hR hlen
      rw [l_X4_laysFrom_29, if_neg (show ¬ nI n ≤ nI d from fun q => by rw [nI_leI (by omega) (by omega)] at q; omega), if_neg (fun q => nac ((ne_of hn ha hc).mp q)), add_1]
      by_cases c4 : a = d
      · rw [if_pos c4, List.append_nil]
        refine ⟨m1, ?_, hR⟩
        have stop : l_X4_laysFrom_47 61 (nI a) (nI b) (nI n) (nI c) (nI d) FU (nI (d + 1)) (HB m1) = some (HB m1) := by
          rw [show FU = 3999999 + 1 from rfl, l_X4_laysFrom_47, if_pos (show nI a = nI d by rw [c4])]
          split <;> rfl
        rw [stop, Option.bind_some]
      · rw [if_neg c4] at hlen ⊢
        obtain ⟨m2, e2, R2⟩ := inE a b c d ha hd c4 m1 l hR hlen
        refine ⟨m2, ?_, R2⟩
        rw [e2, Option.bind_some]
  have inC : ∀ a b, a < n → b < n → a ≠ b → ∀ m1 l, (RRm l m1 ∧ kN m0 m1) → (l ++ mC n a b).length ≤ 280 → ∃ m2, l_X4_laysFrom_12 61 (nI a) (nI b) (nI n) FU (nI (b + 1)) (HB m1) = some (HB m2) ∧ RRm (l ++ mC n a b) m2 ∧ kN m0 m2 := by
    intro a b ha hb nab m1 l hR hlen
    refine loopAB (α := List Nat) (fun fuel x h => l_X4_laysFrom_12 61 (nI a) (nI b) (nI n) fuel x h) n 280 (b + 1) (fun c => if a = c then [] else mD n a b c) (fun l m1 => RRm l m1 ∧ kN m0 m1) ?_ ?_ (n - (b + 1)) (b + 1) m1 l FU (Nat.le_refl _) (by omega) (FUx (by omega)) hR hlen
    · intro fuel m1 l hR
      simp (disch := omega) only [l_X4_laysFrom_12, leN, if_pos (Nat.le_refl n)]
    · intro fuel c m1 l hlo hc hR hlen
      rw [l_X4_laysFrom_12, if_neg (show ¬ nI n ≤ nI c from fun q => by rw [nI_leI (by omega) (by omega)] at q; omega), if_neg (fun q => nab ((ne_of hn ha hb).mp q)), add_1]
      by_cases c4 : a = c
      · rw [if_pos c4, List.append_nil]
        refine ⟨m1, ?_, hR⟩
        have stop : l_X4_laysFrom_29 61 (nI a) (nI b) (nI n) (nI c) FU (nI (c + 1)) (HB m1) = some (HB m1) := by
          rw [show FU = 3999999 + 1 from rfl, l_X4_laysFrom_29, if_pos (show nI a = nI c by rw [c4])]
          split <;> rfl
        rw [stop, Option.bind_some]
      · rw [if_neg c4] at hlen ⊢
        obtain ⟨m2, e2, R2⟩ := inD a b c ha hc c4 m1 l hR hlen
        refine ⟨m2, ?_, R2⟩
        rw [e2, Option.bind_some]
  have inB : ∀ a, a < n → ∀ m1 l, (RRm l m1 ∧ kN m0 m1) → (l ++ mB n a).length ≤ 280 → ∃ m2, l_X4_lays_143 61 (nI n) (nI a) FU 0 (HB m1) = some (HB m2) ∧ RRm (l ++ mB n a) m2 ∧ kN m0 m2 := by
    intro a ha m1 l hR hlen
    refine loopAB (α := List Nat) (fun fuel x h => l_X4_lays_143 61 (nI n) (nI a) fuel x h) n 280 0 (fun b => if a = b then [] else mC n a b) (fun l m1 => RRm l m1 ∧ kN m0 m1) ?_ ?_ n 0 m1 l FU (Nat.le_refl _) (by omega) (FUx (by omega)) hR hlen
    · intro fuel m1 l hR
      simp (disch := omega) only [l_X4_lays_143, leN, if_pos (Nat.le_refl n)]
    · intro fuel b m1 l hlo hb hR hlen
      have ea : aI (HB m1) 62 0 = some (nI n) := (r_62B m1 (i := 0) (by omega)).trans (by rw [hR.2.2.1 62 (by omega) (by omega), h0])
      rw [l_X4_lays_143, if_neg (show ¬ nI n ≤ nI b from fun q => by rw [nI_leI (by omega) (by omega)] at q; omega), add_1]
      unfold f_X4_laysFrom
      rw [o_61B, Option.bind_some, g_61_0B, Option.bind_some, ea, Option.bind_some, add_1]
      by_cases c4 : a = b
      · rw [if_pos c4, List.append_nil]
        refine ⟨m1, ?_, hR⟩
        have stop : l_X4_laysFrom_12 61 (nI a) (nI b) (nI n) FU (nI (b + 1)) (HB m1) = some (HB m1) := by
          rw [show FU = 3999999 + 1 from rfl, l_X4_laysFrom_12, if_pos (show nI a = nI b by rw [c4])]
          split <;> rfl
        rw [stop, Option.bind_some, Option.bind_some]
      · rw [if_neg c4] at hlen ⊢
        obtain ⟨m2, e2, R2⟩ := inC a b ha hb c4 m1 l hR hlen
        refine ⟨m2, ?_, R2⟩
        rw [e2, Option.bind_some, Option.bind_some]
  have go : ∃ m1, l_X4_lays_136 61 (nI n) FU (nI 0) (HB (m0.sI 61 11 0)) = some (HB m1) ∧ RRm ([] ++ mA n) m1 ∧ kN m0 m1 := by
    refine loopAB (α := List Nat) (fun fuel x h => l_X4_lays_136 61 (nI n) fuel x h) n 280 0 (fun a => mB n a) (fun l m1 => RRm l m1 ∧ kN m0 m1) ?_ ?_ n 0 (m0.sI 61 11 0) [] FU (Nat.le_refl _) (by omega) (FUx (by omega)) S0 (by show ([] ++ mA n).length ≤ 280; simpa using hB)
    · intro fuel m1 l hR
      simp (disch := omega) only [l_X4_lays_136, leN, if_pos (Nat.le_refl n)]
    · intro fuel a m1 l hlo ha hR hlen
      obtain ⟨m2, e2, R2⟩ := inB a ha m1 l hR hlen
      refine ⟨m2, ?_, R2⟩
      simp (disch := omega) only [l_X4_lays_136, Option.bind_some, leN, if_neg (show ¬ n ≤ a by omega), add_1, e2]
  rw [List.nil_append, mA_e hn] at go
  exact go
theorem m_laysB {n : Nat} (hn : n38 n) {m : Mem} (h0 : m.I 62 0 = nI n) : ∃ m1, f_X4_lays 61 (HB m) = some (HB m1) ∧ LM n m1 ∧ fN m m1 := by
  have h8 := hn.2
  obtain ⟨m1, e1, R1, f1⟩ := m_laysTB hn m
  have h01 : m1.I 62 0 = nI n := by rw [(f1.1.1 62 (by unfold cN; omega)).1]; exact h0
  obtain ⟨m2, e2, R2, f2, z2, y2⟩ := m_laysRB hn h01
  have ea : aI (HB m) 62 0 = some (nI n) := (r_62B m (i := 0) (by omega)).trans (by rw [h0])
  refine ⟨m2, ?_, ⟨?_, R2.1, ?_, ?_, fun r w hr hw => R2.2 r w hr hw⟩, fN_tr f1 f2⟩
  · simp only [f_X4_lays, o_0B, g_0_0B, g_0_1B, g_0_2B, g_0_3B, g_0_4B, p_0_4B, g_0_5B, g_0_6B, g_0_7B, g_0_8B, g_0_9B, g_0_10B, g_0_11B, o_1B, g_1_0B, p_1_0B, g_1_1B, p_1_1B, g_1_2B, p_1_2B, g_1_3B, g_1_4B, g_1_5B, g_1_6B, g_1_7B, g_1_8B, g_1_9B, r_2B, w_2B, r_3B, w_3B, r_4B, w_4B, r_5B, w_5B, r_6B, w_6B, r_7B, w_7B, r_8B, w_8B, o_9B, g_9_0B, p_9_0B, g_9_1B, p_9_1B, g_9_2B, p_9_2B, g_9_3B, g_9_4B, g_9_5B, g_9_6B, g_9_7B, g_9_8B, g_9_9B, r_10B, w_10B, r_11B, w_11B, r_12B, w_12B, r_13B, w_13B, r_14B, w_14B, r_15B, w_15B, r_16B, w_16B, o_17B, g_17_0B, g_17_1B, p_17_1B, g_17_2B, g_17_3B, g_17_4B, p_17_4B, r_18B, w_18B, r_19B, w_19B, r_20B, w_20B, r_22B, w_22B, r_23B, w_23B, r_24B, w_24B, r_25B, w_25B, r_26B, w_26B, r_27B, w_27B, r_28B, w_28B, o_29B, g_29_0B, p_29_0B, g_29_1B, p_29_1B, g_29_2B, p_29_2B, g_29_3B, g_29_4B, g_29_5B, g_29_6B, g_29_7B, g_29_8B, g_29_9B, r_30B, w_30B, r_31B, w_31B, r_32B, w_32B, r_33B, w_33B, r_34B, w_34B, r_35B, w_35B, r_36B, w_36B, o_37B, g_37_0B, p_37_0B, g_37_1B, p_37_1B, g_37_2B, p_37_2B, g_37_3B, g_37_4B, g_37_5B, g_37_6B, g_37_7B, g_37_8B, g_37_9B, r_38B, w_38B, r_39B, w_39B, r_40B, w_40B, r_41B, w_41B, r_42B, w_42B, r_43B, w_43B, r_44B, w_44B, o_45B, g_45_0B, p_45_0B, g_45_1B, p_45_1B, g_45_2B, p_45_2B, g_45_3B, g_45_4B, g_45_5B, g_45_6B, g_45_7B, g_45_8B, g_45_9B, r_46B, w_46B, r_47B, w_47B, r_48B, w_48B, r_49B, w_49B, r_50B, w_50B, r_51B, w_51B, r_52B, w_52B, o_53B, g_53_0B, p_53_0B, g_53_1B, p_53_1B, g_53_2B, p_53_2B, g_53_3B, g_53_4B, g_53_5B, g_53_6B, g_53_7B, g_53_8B, g_53_9B, r_54B, w_54B, r_55B, w_55B, r_56B, w_56B, r_57B, w_57B, r_58B, w_58B, r_59B, w_59B, r_60B, w_60B, o_61B, g_61_0B, g_61_1B, g_61_2B, g_61_3B, p_61_3B, g_61_4B, g_61_5B, p_61_5B, g_61_6B, p_61_6B, g_61_7B, g_61_8B, g_61_9B, p_61_9B, g_61_10B, g_61_11B, p_61_11B, g_61_12B, p_61_12B, g_61_13B, g_61_14B, g_61_15B, g_61_16B, g_61_17B, g_61_18B, g_61_19B, g_61_20B, p_61_20B, g_61_21B, p_61_21B, g_61_22B, g_61_23B, p_61_23B, r_62B, w_62B, r_63B, w_63B, r_64B, w_64B, r_65B, w_65B, r_66B, w_66B, r_67B, w_67B, r_68B, w_68B, r_69B, w_69B, r_70B, w_70B, r_71B, w_71B, r_72B, w_72B, r_73B, w_73B, r_74B, w_74B, r_75B, w_75B, r_76B, w_76B, Option.bind_some, ea, e1, e2]
  · rw [y2]
    exact R1.1
  · intro t w ht hw
    rw [z2 66 (by omega) (by omega)]
    exact R1.2.1 t w ht hw
  · intro i j k h1 h2 h3
    obtain ⟨q1, q2⟩ := nu_lx hn h1 h2 h3
    rw [z2 67 (by omega) (by omega), q1]
    exact R1.2.2 i j k h1 h2 (by omega) q2
theorem m_unknB (m : Mem) : l_X4_begins_2 61 FU 0 (HB m) = some (HB (m.rI 62 (clq (m.I 62) 56))) := by
  have key : ∃ b, l_X4_begins_2 61 FU (nI 0) (HB m) = some b ∧ b = HB (m.rI 62 (clq (m.I 62) 56)) := by
    refine loopR (fun fuel (a : Int32 × Hp) => l_X4_begins_2 61 fuel a.1 a.2) (fun k a => a = (nI k, HB (m.rI 62 (clq (m.I 62) k)))) _ 56 ?_ ?_ 56 0 (nI 0, HB m) FU (by omega) (FUx (by omega)) (by rw [clq_0, rI_id])
    · rintro k a fuel hk rfl
      refine Or.inl ⟨(nI (k + 1), HB (m.rI 62 (clq (m.I 62) (k + 1)))), ?_, rfl⟩
      simp (disch := omega) only [l_X4_begins_2, le56, if_neg (show ¬ 56 ≤ k by omega), m_clearsB, rI_I, rI_rI, clq_s, Option.bind_some, add_1]
    · rintro a fuel rfl
      refine ⟨_, ?_, rfl⟩
      simp (disch := omega) only [l_X4_begins_2, le56, if_pos (Nat.le_refl 56)]
  obtain ⟨b, e, rfl⟩ := key
  exact e
theorem m_unplB (m : Mem) : l_X4_begins_23 61 FU 227 (HB m) = some (HB (m.rI 62 (fun j => if 227 ≤ j ∧ j < 243 then -100 else m.I 62 j))) := by
  have key : ∃ b, l_X4_begins_23 61 FU (nI (227 + 0)) (HB m) = some b ∧ b = HB (m.rI 62 (fun j => if 227 ≤ j ∧ j < 243 then -100 else m.I 62 j)) := by
    refine loopR (fun fuel (a : Int32 × Hp) => l_X4_begins_23 61 fuel a.1 a.2) (fun k a => a = (nI (227 + k), HB (m.rI 62 (fun j => if 227 ≤ j ∧ j < 227 + k then -100 else m.I 62 j)))) _ 16 ?_ ?_ 16 0 (nI (227 + 0), HB m) FU (by omega) (FUx (by omega)) ?_
    · rintro k a fuel hk rfl
      refine Or.inl ⟨(nI (227 + (k + 1)), HB (m.rI 62 (fun j => if 227 ≤ j ∧ j < 227 + (k + 1) then -100 else m.I 62 j))), ?_, rfl⟩
      have er : upd (fun j => if 227 ≤ j ∧ j < 227 + k then -100 else m.I 62 j) (227 + k) (-100) = fun j => if 227 ≤ j ∧ j < 227 + (k + 1) then -100 else m.I 62 j := by
        funext j
        rw [upd_g]
        by_cases c : j = 227 + k
        · rw [if_pos c, if_pos (by omega)]
        · rw [if_neg c]
          by_cases d : 227 ≤ j ∧ j < 227 + k
          · rw [if_pos d, if_pos (by omega)]
          · rw [if_neg d, if_neg (by omega)]
      simp (disch := omega) only [l_X4_begins_23, le243, if_neg (show ¬ 243 ≤ 227 + k by omega), o_0B, g_0_0B, g_0_1B, g_0_2B, g_0_3B, g_0_4B, p_0_4B, g_0_5B, g_0_6B, g_0_7B, g_0_8B, g_0_9B, g_0_10B, g_0_11B, o_1B, g_1_0B, p_1_0B, g_1_1B, p_1_1B, g_1_2B, p_1_2B, g_1_3B, g_1_4B, g_1_5B, g_1_6B, g_1_7B, g_1_8B, g_1_9B, r_2B, w_2B, r_3B, w_3B, r_4B, w_4B, r_5B, w_5B, r_6B, w_6B, r_7B, w_7B, r_8B, w_8B, o_9B, g_9_0B, p_9_0B, g_9_1B, p_9_1B, g_9_2B, p_9_2B, g_9_3B, g_9_4B, g_9_5B, g_9_6B, g_9_7B, g_9_8B, g_9_9B, r_10B, w_10B, r_11B, w_11B, r_12B, w_12B, r_13B, w_13B, r_14B, w_14B, r_15B, w_15B, r_16B, w_16B, o_17B, g_17_0B, g_17_1B, p_17_1B, g_17_2B, g_17_3B, g_17_4B, p_17_4B, r_18B, w_18B, r_19B, w_19B, r_20B, w_20B, r_22B, w_22B, r_23B, w_23B, r_24B, w_24B, r_25B, w_25B, r_26B, w_26B, r_27B, w_27B, r_28B, w_28B, o_29B, g_29_0B, p_29_0B, g_29_1B, p_29_1B, g_29_2B, p_29_2B, g_29_3B, g_29_4B, g_29_5B, g_29_6B, g_29_7B, g_29_8B, g_29_9B, r_30B, w_30B, r_31B, w_31B, r_32B, w_32B, r_33B, w_33B, r_34B, w_34B, r_35B, w_35B, r_36B, w_36B, o_37B, g_37_0B, p_37_0B, g_37_1B, p_37_1B, g_37_2B, p_37_2B, g_37_3B, g_37_4B, g_37_5B, g_37_6B, g_37_7B, g_37_8B, g_37_9B, r_38B, w_38B, r_39B, w_39B, r_40B, w_40B, r_41B, w_41B, r_42B, w_42B, r_43B, w_43B, r_44B, w_44B, o_45B, g_45_0B, p_45_0B, g_45_1B, p_45_1B, g_45_2B, p_45_2B, g_45_3B, g_45_4B, g_45_5B, g_45_6B, g_45_7B, g_45_8B, g_45_9B, r_46B, w_46B, r_47B, w_47B, r_48B, w_48B, r_49B, w_49B, r_50B, w_50B, r_51B, w_51B, r_52B, w_52B, o_53B, g_53_0B, p_53_0B, g_53_1B, p_53_1B, g_53_2B, p_53_2B, g_53_3B, g_53_4B, g_53_5B, g_53_6B, g_53_7B, g_53_8B, g_53_9B, r_54B, w_54B, r_55B, w_55B, r_56B, w_56B, r_57B, w_57B, r_58B, w_58B, r_59B, w_59B, r_60B, w_60B, o_61B, g_61_0B, g_61_1B, g_61_2B, g_61_3B, p_61_3B, g_61_4B, g_61_5B, p_61_5B, g_61_6B, p_61_6B, g_61_7B, g_61_8B, g_61_9B, p_61_9B, g_61_10B, g_61_11B, p_61_11B, g_61_12B, p_61_12B, g_61_13B, g_61_14B, g_61_15B, g_61_16B, g_61_17B, g_61_18B, g_61_19B, g_61_20B, p_61_20B, g_61_21B, p_61_21B, g_61_22B, g_61_23B, p_61_23B, r_62B, w_62B, r_63B, w_63B, r_64B, w_64B, r_65B, w_65B, r_66B, w_66B, r_67B, w_67B, r_68B, w_68B, r_69B, w_69B, r_70B, w_70B, r_71B, w_71B, r_72B, w_72B, r_73B, w_73B, r_74B, w_74B, r_75B, w_75B, r_76B, w_76B, Option.bind_some, rI_sI, er, add_1]
      rfl
    · rintro a fuel rfl
      refine ⟨_, ?_, rfl⟩
      simp (disch := omega) only [l_X4_begins_23, le243, if_pos (show 243 ≤ 227 + 16 by omega)]
    · have : (fun j => if 227 ≤ j ∧ j < 227 + 0 then (-100 : Int32) else m.I 62 j) = m.I 62 := by
        funext j
        rw [if_neg (by omega)]
      rw [this, rI_id]
  obtain ⟨b, e, rfl⟩ := key
  exact e
theorem m_beginsB {n : Nat} (hn : n38 n) (m : Mem) : ∃ m1, f_X4_begins 61 (nI n) (HB m) = some (HB m1) ∧ LM n m1 ∧ fN (m.rI 62 (bgR n (m.I 62))) m1 := by
  obtain ⟨m0, em0⟩ : ∃ m0, m0 = m.rI 62 (bgR n (m.I 62)) := ⟨_, rfl⟩
  obtain ⟨m1, e1, L1, f1⟩ := m_laysB hn (m := m0) (by rw [em0, rI_I]; rfl)
  refine ⟨m1, ?_, L1, by rw [← em0]; exact f1⟩
  have w0 := w_62B (m.rI 62 (fun j => if 227 ≤ j ∧ j < 243 then -100 else clq (m.I 62) 56 j)) (i := 0) (by omega) (nI n)
  rw [rI_sI] at w0
  have w2 := w_62B (m.rI 62 (upd (fun j => if 227 ≤ j ∧ j < 243 then -100 else clq (m.I 62) 56 j) 0 (nI n))) (i := 2) (by omega) (-100)
  rw [rI_sI, bgR_e, ← em0] at w2
  unfold f_X4_begins
  rw [o_61B, Option.bind_some, m_unknB, Option.bind_some, m_unplB, Option.bind_some, rI_I, rI_rI, g_61_0B, Option.bind_some, show wI (HB (m.rI 62 (fun j => if 227 ≤ j ∧ j < 243 then -100 else clq (m.I 62) 56 j))) 62 0 (nI n) = _ from w0, Option.bind_some, g_61_0B, Option.bind_some, show wI (HB (m.rI 62 (upd (fun j => if 227 ≤ j ∧ j < 243 then -100 else clq (m.I 62) 56 j) 0 (nI n)))) 62 2 (-100) = _ from w2, Option.bind_some, e1, Option.bind_some]
