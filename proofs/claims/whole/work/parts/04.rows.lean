theorem U_iadd {g : GT} {Γ : CT} {cc : ByteArray} {own nm : String} {nL : Nat} {rt : Option FieldType} {lvl mc ms : Nat} {Q : State → Prop} {ce sl pc n : Nat} {lv : List (Nat × Value)} {st : List Value} {h : Hp} {x y : Int32} (C : Cx g Γ cc own nm nL rt lvl mc ms) (d : decode cc pc = .ok (.iadd, 1)) (hn : pc + 1 = n) (k : U g Γ nL Q ce sl n lv (.int (x + y) :: st) h) : U g Γ nL Q ce sl pc lv (.int y :: .int x :: st) h := by
  subst hn
  intro ad H locs ls I hL hS hl
  exact lv_iadd C.x C.b d (k ad H locs ls I hL (wS_int (wS_tl (wS_tl hS))) hl)
theorem U_isub {g : GT} {Γ : CT} {cc : ByteArray} {own nm : String} {nL : Nat} {rt : Option FieldType} {lvl mc ms : Nat} {Q : State → Prop} {ce sl pc n : Nat} {lv : List (Nat × Value)} {st : List Value} {h : Hp} {x y : Int32} (C : Cx g Γ cc own nm nL rt lvl mc ms) (d : decode cc pc = .ok (.isub, 1)) (hn : pc + 1 = n) (k : U g Γ nL Q ce sl n lv (.int (x - y) :: st) h) : U g Γ nL Q ce sl pc lv (.int y :: .int x :: st) h := by
  subst hn
  intro ad H locs ls I hL hS hl
  exact lv_isub C.x C.b d (k ad H locs ls I hL (wS_int (wS_tl (wS_tl hS))) hl)
theorem U_imul {g : GT} {Γ : CT} {cc : ByteArray} {own nm : String} {nL : Nat} {rt : Option FieldType} {lvl mc ms : Nat} {Q : State → Prop} {ce sl pc n : Nat} {lv : List (Nat × Value)} {st : List Value} {h : Hp} {x y : Int32} (C : Cx g Γ cc own nm nL rt lvl mc ms) (d : decode cc pc = .ok (.imul, 1)) (hn : pc + 1 = n) (k : U g Γ nL Q ce sl n lv (.int (x * y) :: st) h) : U g Γ nL Q ce sl pc lv (.int y :: .int x :: st) h := by
  subst hn
  intro ad H locs ls I hL hS hl
  exact lv_imul C.x C.b d (k ad H locs ls I hL (wS_int (wS_tl (wS_tl hS))) hl)
theorem U_iand {g : GT} {Γ : CT} {cc : ByteArray} {own nm : String} {nL : Nat} {rt : Option FieldType} {lvl mc ms : Nat} {Q : State → Prop} {ce sl pc n : Nat} {lv : List (Nat × Value)} {st : List Value} {h : Hp} {x y : Int32} (C : Cx g Γ cc own nm nL rt lvl mc ms) (d : decode cc pc = .ok (.iand, 1)) (hn : pc + 1 = n) (k : U g Γ nL Q ce sl n lv (.int (x &&& y) :: st) h) : U g Γ nL Q ce sl pc lv (.int y :: .int x :: st) h := by
  subst hn
  intro ad H locs ls I hL hS hl
  exact lv_iand C.x C.b d (k ad H locs ls I hL (wS_int (wS_tl (wS_tl hS))) hl)
theorem U_ior {g : GT} {Γ : CT} {cc : ByteArray} {own nm : String} {nL : Nat} {rt : Option FieldType} {lvl mc ms : Nat} {Q : State → Prop} {ce sl pc n : Nat} {lv : List (Nat × Value)} {st : List Value} {h : Hp} {x y : Int32} (C : Cx g Γ cc own nm nL rt lvl mc ms) (d : decode cc pc = .ok (.ior, 1)) (hn : pc + 1 = n) (k : U g Γ nL Q ce sl n lv (.int (x ||| y) :: st) h) : U g Γ nL Q ce sl pc lv (.int y :: .int x :: st) h := by
  subst hn
  intro ad H locs ls I hL hS hl
  exact lv_ior C.x C.b d (k ad H locs ls I hL (wS_int (wS_tl (wS_tl hS))) hl)
theorem U_ishl {g : GT} {Γ : CT} {cc : ByteArray} {own nm : String} {nL : Nat} {rt : Option FieldType} {lvl mc ms : Nat} {Q : State → Prop} {ce sl pc n : Nat} {lv : List (Nat × Value)} {st : List Value} {h : Hp} {x y : Int32} (C : Cx g Γ cc own nm nL rt lvl mc ms) (d : decode cc pc = .ok (.ishl, 1)) (hn : pc + 1 = n) (k : U g Γ nL Q ce sl n lv (.int (x <<< (y &&& 31)) :: st) h) : U g Γ nL Q ce sl pc lv (.int y :: .int x :: st) h := by
  subst hn
  intro ad H locs ls I hL hS hl
  exact lv_ishl C.x C.b d (k ad H locs ls I hL (wS_int (wS_tl (wS_tl hS))) hl)
theorem U_ishr {g : GT} {Γ : CT} {cc : ByteArray} {own nm : String} {nL : Nat} {rt : Option FieldType} {lvl mc ms : Nat} {Q : State → Prop} {ce sl pc n : Nat} {lv : List (Nat × Value)} {st : List Value} {h : Hp} {x y : Int32} (C : Cx g Γ cc own nm nL rt lvl mc ms) (d : decode cc pc = .ok (.ishr, 1)) (hn : pc + 1 = n) (k : U g Γ nL Q ce sl n lv (.int (x >>> (y &&& 31)) :: st) h) : U g Γ nL Q ce sl pc lv (.int y :: .int x :: st) h := by
  subst hn
  intro ad H locs ls I hL hS hl
  exact lv_ishr C.x C.b d (k ad H locs ls I hL (wS_int (wS_tl (wS_tl hS))) hl)
theorem U_idiv {g : GT} {Γ : CT} {cc : ByteArray} {own nm : String} {nL : Nat} {rt : Option FieldType} {lvl mc ms : Nat} {Q : State → Prop} {ce sl pc n : Nat} {lv : List (Nat × Value)} {st : List Value} {h : Hp} {x y : Int32} (C : Cx g Γ cc own nm nL rt lvl mc ms) (d : decode cc pc = .ok (.idiv, 1)) (hne : ¬ y = 0) (hn : pc + 1 = n) (k : U g Γ nL Q ce sl n lv (.int (x / y) :: st) h) : U g Γ nL Q ce sl pc lv (.int y :: .int x :: st) h := by
  subst hn
  intro ad H locs ls I hL hS hl
  exact lv_idiv C.x C.b d hne (k ad H locs ls I hL (wS_int (wS_tl (wS_tl hS))) hl)
theorem U_irem {g : GT} {Γ : CT} {cc : ByteArray} {own nm : String} {nL : Nat} {rt : Option FieldType} {lvl mc ms : Nat} {Q : State → Prop} {ce sl pc n : Nat} {lv : List (Nat × Value)} {st : List Value} {h : Hp} {x y : Int32} (C : Cx g Γ cc own nm nL rt lvl mc ms) (d : decode cc pc = .ok (.irem, 1)) (hne : ¬ y = 0) (hn : pc + 1 = n) (k : U g Γ nL Q ce sl n lv (.int (x - x / y * y) :: st) h) : U g Γ nL Q ce sl pc lv (.int y :: .int x :: st) h := by
  subst hn
  intro ad H locs ls I hL hS hl
  exact lv_irem C.x C.b d hne (k ad H locs ls I hL (wS_int (wS_tl (wS_tl hS))) hl)
theorem U_ladd {g : GT} {Γ : CT} {cc : ByteArray} {own nm : String} {nL : Nat} {rt : Option FieldType} {lvl mc ms : Nat} {Q : State → Prop} {ce sl pc n : Nat} {lv : List (Nat × Value)} {st : List Value} {h : Hp} {x y : Int64} (C : Cx g Γ cc own nm nL rt lvl mc ms) (d : decode cc pc = .ok (.ladd, 1)) (hn : pc + 1 = n) (k : U g Γ nL Q ce sl n lv (.long (x + y) :: st) h) : U g Γ nL Q ce sl pc lv (.long y :: .long x :: st) h := by
  subst hn
  intro ad H locs ls I hL hS hl
  exact lv_ladd C.x C.b d (k ad H locs ls I hL (wS_long (wS_tl (wS_tl hS))) hl)
theorem U_lmul {g : GT} {Γ : CT} {cc : ByteArray} {own nm : String} {nL : Nat} {rt : Option FieldType} {lvl mc ms : Nat} {Q : State → Prop} {ce sl pc n : Nat} {lv : List (Nat × Value)} {st : List Value} {h : Hp} {x y : Int64} (C : Cx g Γ cc own nm nL rt lvl mc ms) (d : decode cc pc = .ok (.lmul, 1)) (hn : pc + 1 = n) (k : U g Γ nL Q ce sl n lv (.long (x * y) :: st) h) : U g Γ nL Q ce sl pc lv (.long y :: .long x :: st) h := by
  subst hn
  intro ad H locs ls I hL hS hl
  exact lv_lmul C.x C.b d (k ad H locs ls I hL (wS_long (wS_tl (wS_tl hS))) hl)
theorem U_land {g : GT} {Γ : CT} {cc : ByteArray} {own nm : String} {nL : Nat} {rt : Option FieldType} {lvl mc ms : Nat} {Q : State → Prop} {ce sl pc n : Nat} {lv : List (Nat × Value)} {st : List Value} {h : Hp} {x y : Int64} (C : Cx g Γ cc own nm nL rt lvl mc ms) (d : decode cc pc = .ok (.land, 1)) (hn : pc + 1 = n) (k : U g Γ nL Q ce sl n lv (.long (x &&& y) :: st) h) : U g Γ nL Q ce sl pc lv (.long y :: .long x :: st) h := by
  subst hn
  intro ad H locs ls I hL hS hl
  exact lv_land C.x C.b d (k ad H locs ls I hL (wS_long (wS_tl (wS_tl hS))) hl)
theorem U_lor {g : GT} {Γ : CT} {cc : ByteArray} {own nm : String} {nL : Nat} {rt : Option FieldType} {lvl mc ms : Nat} {Q : State → Prop} {ce sl pc n : Nat} {lv : List (Nat × Value)} {st : List Value} {h : Hp} {x y : Int64} (C : Cx g Γ cc own nm nL rt lvl mc ms) (d : decode cc pc = .ok (.lor, 1)) (hn : pc + 1 = n) (k : U g Γ nL Q ce sl n lv (.long (x ||| y) :: st) h) : U g Γ nL Q ce sl pc lv (.long y :: .long x :: st) h := by
  subst hn
  intro ad H locs ls I hL hS hl
  exact lv_lor C.x C.b d (k ad H locs ls I hL (wS_long (wS_tl (wS_tl hS))) hl)
theorem U_lsub {g : GT} {Γ : CT} {cc : ByteArray} {own nm : String} {nL : Nat} {rt : Option FieldType} {lvl mc ms : Nat} {Q : State → Prop} {ce sl pc n : Nat} {lv : List (Nat × Value)} {st : List Value} {h : Hp} {x y : Int64} (C : Cx g Γ cc own nm nL rt lvl mc ms) (d : decode cc pc = .ok (.lsub, 1)) (hn : pc + 1 = n) (k : U g Γ nL Q ce sl n lv (.long (x - y) :: st) h) : U g Γ nL Q ce sl pc lv (.long y :: .long x :: st) h := by
  subst hn
  intro ad H locs ls I hL hS hl
  exact lv_lsub C.x C.b d (k ad H locs ls I hL (wS_long (wS_tl (wS_tl hS))) hl)
theorem U_ldiv {g : GT} {Γ : CT} {cc : ByteArray} {own nm : String} {nL : Nat} {rt : Option FieldType} {lvl mc ms : Nat} {Q : State → Prop} {ce sl pc n : Nat} {lv : List (Nat × Value)} {st : List Value} {h : Hp} {x y : Int64} (C : Cx g Γ cc own nm nL rt lvl mc ms) (d : decode cc pc = .ok (.ldiv, 1)) (hne : ¬ y = 0) (hn : pc + 1 = n) (k : U g Γ nL Q ce sl n lv (.long (x / y) :: st) h) : U g Γ nL Q ce sl pc lv (.long y :: .long x :: st) h := by
  subst hn
  intro ad H locs ls I hL hS hl
  exact lv_ldiv C.x C.b d hne (k ad H locs ls I hL (wS_long (wS_tl (wS_tl hS))) hl)
theorem U_lrem {g : GT} {Γ : CT} {cc : ByteArray} {own nm : String} {nL : Nat} {rt : Option FieldType} {lvl mc ms : Nat} {Q : State → Prop} {ce sl pc n : Nat} {lv : List (Nat × Value)} {st : List Value} {h : Hp} {x y : Int64} (C : Cx g Γ cc own nm nL rt lvl mc ms) (d : decode cc pc = .ok (.lrem, 1)) (hne : ¬ y = 0) (hn : pc + 1 = n) (k : U g Γ nL Q ce sl n lv (.long (x - x / y * y) :: st) h) : U g Γ nL Q ce sl pc lv (.long y :: .long x :: st) h := by
  subst hn
  intro ad H locs ls I hL hS hl
  exact lv_lrem C.x C.b d hne (k ad H locs ls I hL (wS_long (wS_tl (wS_tl hS))) hl)
theorem U_lshl {g : GT} {Γ : CT} {cc : ByteArray} {own nm : String} {nL : Nat} {rt : Option FieldType} {lvl mc ms : Nat} {Q : State → Prop} {ce sl pc n : Nat} {lv : List (Nat × Value)} {st : List Value} {h : Hp} {x : Int64} {y : Int32} (C : Cx g Γ cc own nm nL rt lvl mc ms) (d : decode cc pc = .ok (.lshl, 1)) (hn : pc + 1 = n) (k : U g Γ nL Q ce sl n lv (.long (x <<< (y.toInt64 &&& 63)) :: st) h) : U g Γ nL Q ce sl pc lv (.int y :: .long x :: st) h := by
  subst hn
  intro ad H locs ls I hL hS hl
  exact lv_lshl C.x C.b d rfl (k ad H locs ls I hL (wS_long (wS_tl (wS_tl hS))) hl)
theorem U_lshr {g : GT} {Γ : CT} {cc : ByteArray} {own nm : String} {nL : Nat} {rt : Option FieldType} {lvl mc ms : Nat} {Q : State → Prop} {ce sl pc n : Nat} {lv : List (Nat × Value)} {st : List Value} {h : Hp} {x : Int64} {y : Int32} (C : Cx g Γ cc own nm nL rt lvl mc ms) (d : decode cc pc = .ok (.lshr, 1)) (hn : pc + 1 = n) (k : U g Γ nL Q ce sl n lv (.long (x >>> (y.toInt64 &&& 63)) :: st) h) : U g Γ nL Q ce sl pc lv (.int y :: .long x :: st) h := by
  subst hn
  intro ad H locs ls I hL hS hl
  exact lv_lshr C.x C.b d rfl (k ad H locs ls I hL (wS_long (wS_tl (wS_tl hS))) hl)
theorem U_lcmp {g : GT} {Γ : CT} {cc : ByteArray} {own nm : String} {nL : Nat} {rt : Option FieldType} {lvl mc ms : Nat} {Q : State → Prop} {ce sl pc n : Nat} {lv : List (Nat × Value)} {st : List Value} {h : Hp} {x y : Int64} (C : Cx g Γ cc own nm nL rt lvl mc ms) (d : decode cc pc = .ok (.lcmp, 1)) (hn : pc + 1 = n) (k : U g Γ nL Q ce sl n lv (.int (lg_cmp x y) :: st) h) : U g Γ nL Q ce sl pc lv (.long y :: .long x :: st) h := by
  subst hn
  intro ad H locs ls I hL hS hl
  exact W.lcmp C.x C.b d (k ad H locs ls I hL (wS_int (wS_tl (wS_tl hS))) hl)
theorem U_ineg {g : GT} {Γ : CT} {cc : ByteArray} {own nm : String} {nL : Nat} {rt : Option FieldType} {lvl mc ms : Nat} {Q : State → Prop} {ce sl pc n : Nat} {lv : List (Nat × Value)} {st : List Value} {h : Hp} {x : Int32} (C : Cx g Γ cc own nm nL rt lvl mc ms) (d : decode cc pc = .ok (.ineg, 1)) (hn : pc + 1 = n) (k : U g Γ nL Q ce sl n lv (.int (-x) :: st) h) : U g Γ nL Q ce sl pc lv (.int x :: st) h := by
  subst hn
  intro ad H locs ls I hL hS hl
  exact lv_ineg C.x C.b d (k ad H locs ls I hL (wS_int (wS_tl hS)) hl)
theorem U_i2l {g : GT} {Γ : CT} {cc : ByteArray} {own nm : String} {nL : Nat} {rt : Option FieldType} {lvl mc ms : Nat} {Q : State → Prop} {ce sl pc n : Nat} {lv : List (Nat × Value)} {st : List Value} {h : Hp} {x : Int32} (C : Cx g Γ cc own nm nL rt lvl mc ms) (d : decode cc pc = .ok (.i2l, 1)) (hn : pc + 1 = n) (k : U g Γ nL Q ce sl n lv (.long x.toInt64 :: st) h) : U g Γ nL Q ce sl pc lv (.int x :: st) h := by
  subst hn
  intro ad H locs ls I hL hS hl
  exact lv_i2l C.x C.b d rfl (k ad H locs ls I hL (wS_long (wS_tl hS)) hl)
theorem U_l2i {g : GT} {Γ : CT} {cc : ByteArray} {own nm : String} {nL : Nat} {rt : Option FieldType} {lvl mc ms : Nat} {Q : State → Prop} {ce sl pc n : Nat} {lv : List (Nat × Value)} {st : List Value} {h : Hp} {x : Int64} (C : Cx g Γ cc own nm nL rt lvl mc ms) (d : decode cc pc = .ok (.l2i, 1)) (hn : pc + 1 = n) (k : U g Γ nL Q ce sl n lv (.int x.toInt32 :: st) h) : U g Γ nL Q ce sl pc lv (.long x :: st) h := by
  subst hn
  intro ad H locs ls I hL hS hl
  exact lv_l2i C.x C.b d rfl (k ad H locs ls I hL (wS_int (wS_tl hS)) hl)
theorem U_iconst {g : GT} {Γ : CT} {cc : ByteArray} {own nm : String} {nL : Nat} {rt : Option FieldType} {lvl mc ms : Nat} {Q : State → Prop} {ce sl pc n : Nat} {lv : List (Nat × Value)} {st : List Value} {h : Hp} (v : Int32) {i : Int} (C : Cx g Γ cc own nm nL rt lvl mc ms) (d : decode cc pc = .ok (.iconst i, 1)) (hv : Int32.ofInt i = v) (hn : pc + 1 = n) (k : U g Γ nL Q ce sl n lv (.int v :: st) h) : U g Γ nL Q ce sl pc lv (st) h := by
  subst hn
  intro ad H locs ls I hL hS hl
  exact lv_iconst C.x C.b d hv (k ad H locs ls I hL (wS_int hS) hl)
theorem U_bipush {g : GT} {Γ : CT} {cc : ByteArray} {own nm : String} {nL : Nat} {rt : Option FieldType} {lvl mc ms : Nat} {Q : State → Prop} {ce sl pc n : Nat} {lv : List (Nat × Value)} {st : List Value} {h : Hp} (v : Int32) {i : Int} (C : Cx g Γ cc own nm nL rt lvl mc ms) (d : decode cc pc = .ok (.bipush i, 2)) (hv : (Int8.ofInt i).toInt32 = v) (hn : pc + 2 = n) (k : U g Γ nL Q ce sl n lv (.int v :: st) h) : U g Γ nL Q ce sl pc lv (st) h := by
  subst hn
  intro ad H locs ls I hL hS hl
  exact lv_bipush C.x C.b d hv (k ad H locs ls I hL (wS_int hS) hl)
theorem U_sipush {g : GT} {Γ : CT} {cc : ByteArray} {own nm : String} {nL : Nat} {rt : Option FieldType} {lvl mc ms : Nat} {Q : State → Prop} {ce sl pc n : Nat} {lv : List (Nat × Value)} {st : List Value} {h : Hp} (v : Int32) {i : Int} (C : Cx g Γ cc own nm nL rt lvl mc ms) (d : decode cc pc = .ok (.sipush i, 3)) (hv : (Int16.ofInt i).toInt32 = v) (hn : pc + 3 = n) (k : U g Γ nL Q ce sl n lv (.int v :: st) h) : U g Γ nL Q ce sl pc lv (st) h := by
  subst hn
  intro ad H locs ls I hL hS hl
  exact lv_sipush C.x C.b d hv (k ad H locs ls I hL (wS_int hS) hl)
theorem U_lconst {g : GT} {Γ : CT} {cc : ByteArray} {own nm : String} {nL : Nat} {rt : Option FieldType} {lvl mc ms : Nat} {Q : State → Prop} {ce sl pc n : Nat} {lv : List (Nat × Value)} {st : List Value} {h : Hp} (v : Int64) {i : Fin 2} (C : Cx g Γ cc own nm nL rt lvl mc ms) (d : decode cc pc = .ok (.lconst i, 1)) (hv : Int64.ofNat (i : Nat) = v) (hn : pc + 1 = n) (k : U g Γ nL Q ce sl n lv (.long v :: st) h) : U g Γ nL Q ce sl pc lv (st) h := by
  subst hn
  intro ad H locs ls I hL hS hl
  exact lv_lconst C.x C.b d hv (k ad H locs ls I hL (wS_long hS) hl)
theorem U_ldc {g : GT} {Γ : CT} {cc : ByteArray} {own nm : String} {nL : Nat} {rt : Option FieldType} {lvl mc ms : Nat} {Q : State → Prop} {ce sl pc n : Nat} {lv : List (Nat × Value)} {st : List Value} {h : Hp} (v : Int32) {i : Nat} (C : Cx g Γ cc own nm nL rt lvl mc ms) (d : decode cc pc = .ok (.ldc i, 2)) (hv : Cond.constant own i v ∈ BW) (hn : pc + 2 = n) (k : U g Γ nL Q ce sl n lv (.int v :: st) h) : U g Γ nL Q ce sl pc lv (st) h := by
  subst hn
  intro ad H locs ls I hL hS hl
  exact lv_ldc C.x C.b C.o (C.w _ hv) d (k ad H locs ls I hL (wS_int hS) hl)
theorem U_ldc2 {g : GT} {Γ : CT} {cc : ByteArray} {own nm : String} {nL : Nat} {rt : Option FieldType} {lvl mc ms : Nat} {Q : State → Prop} {ce sl pc n : Nat} {lv : List (Nat × Value)} {st : List Value} {h : Hp} (v : Int64) {i : Nat} (C : Cx g Γ cc own nm nL rt lvl mc ms) (d : decode cc pc = .ok (.ldc2_w i, 3)) (hv : Cond.constantLong own i v ∈ BW) (hn : pc + 3 = n) (k : U g Γ nL Q ce sl n lv (.long v :: st) h) : U g Γ nL Q ce sl pc lv (st) h := by
  subst hn
  intro ad H locs ls I hL hS hl
  exact lv_ldc2 C.x C.b C.o (C.w _ hv) d (k ad H locs ls I hL (wS_long hS) hl)
theorem U_iload_n {g : GT} {Γ : CT} {cc : ByteArray} {own nm : String} {nL : Nat} {rt : Option FieldType} {lvl mc ms : Nat} {Q : State → Prop} {ce sl pc n : Nat} {lv : List (Nat × Value)} {st : List Value} {h : Hp} {x : Int32} {i : Fin 4} (j : Nat) (C : Cx g Γ cc own nm nL rt lvl mc ms) (d : decode cc pc = .ok (.iload_n i, 1)) (hj : lv[j]? = some (i.val, .int x)) (hn : pc + 1 = n) (k : U g Γ nL Q ce sl n lv (.int x :: st) h) : U g Γ nL Q ce sl pc lv (st) h := by
  subst hn
  intro ad H locs ls I hL hS hl
  exact lv_iload_n C.x C.b d rfl (lv_atm g ad hl j hj) (k ad H locs ls I hL (wS_int hS) hl)
theorem U_iload {g : GT} {Γ : CT} {cc : ByteArray} {own nm : String} {nL : Nat} {rt : Option FieldType} {lvl mc ms : Nat} {Q : State → Prop} {ce sl pc n : Nat} {lv : List (Nat × Value)} {st : List Value} {h : Hp} {x : Int32} {i : Nat} (j : Nat) (C : Cx g Γ cc own nm nL rt lvl mc ms) (d : decode cc pc = .ok (.iload i, 2)) (hj : lv[j]? = some (i, .int x)) (hn : pc + 2 = n) (k : U g Γ nL Q ce sl n lv (.int x :: st) h) : U g Γ nL Q ce sl pc lv (st) h := by
  subst hn
  intro ad H locs ls I hL hS hl
  exact lv_iload C.x C.b d (lv_atm g ad hl j hj) (k ad H locs ls I hL (wS_int hS) hl)
theorem U_lload_n {g : GT} {Γ : CT} {cc : ByteArray} {own nm : String} {nL : Nat} {rt : Option FieldType} {lvl mc ms : Nat} {Q : State → Prop} {ce sl pc n : Nat} {lv : List (Nat × Value)} {st : List Value} {h : Hp} {x : Int64} {i : Fin 4} (j : Nat) (C : Cx g Γ cc own nm nL rt lvl mc ms) (d : decode cc pc = .ok (.lload_n i, 1)) (hj : lv[j]? = some (i.val, .long x)) (hn : pc + 1 = n) (k : U g Γ nL Q ce sl n lv (.long x :: st) h) : U g Γ nL Q ce sl pc lv (st) h := by
  subst hn
  intro ad H locs ls I hL hS hl
  exact lv_lload_n C.x C.b d rfl (lv_atm g ad hl j hj) (k ad H locs ls I hL (wS_long hS) hl)
theorem U_lload {g : GT} {Γ : CT} {cc : ByteArray} {own nm : String} {nL : Nat} {rt : Option FieldType} {lvl mc ms : Nat} {Q : State → Prop} {ce sl pc n : Nat} {lv : List (Nat × Value)} {st : List Value} {h : Hp} {x : Int64} {i : Nat} (j : Nat) (C : Cx g Γ cc own nm nL rt lvl mc ms) (d : decode cc pc = .ok (.lload i, 2)) (hj : lv[j]? = some (i, .long x)) (hn : pc + 2 = n) (k : U g Γ nL Q ce sl n lv (.long x :: st) h) : U g Γ nL Q ce sl pc lv (st) h := by
  subst hn
  intro ad H locs ls I hL hS hl
  exact lv_lload C.x C.b d (lv_atm g ad hl j hj) (k ad H locs ls I hL (wS_long hS) hl)
theorem U_aload_n {g : GT} {Γ : CT} {cc : ByteArray} {own nm : String} {nL : Nat} {rt : Option FieldType} {lvl mc ms : Nat} {Q : State → Prop} {ce sl pc n : Nat} {lv : List (Nat × Value)} {st : List Value} {h : Hp} {x : Value} {i : Fin 4} (j : Nat) (C : Cx g Γ cc own nm nL rt lvl mc ms) (d : decode cc pc = .ok (.aload_n i, 1)) (hj : lv[j]? = some (i.val, x)) (hr : isR x = true) (hn : pc + 1 = n) (k : U g Γ nL Q ce sl n lv (x :: st) h) : U g Γ nL Q ce sl pc lv (st) h := by
  subst hn
  intro ad H locs ls I hL hS hl
  obtain ⟨a, ha⟩ := eV_ref g ad hr
  have hl2 := lv_atm g ad hl j hj
  have k2 := k ad H locs ls I hL (wS_cons (wL_at hL hj) hS) hl
  rw [List.map_cons, ha] at k2
  rw [ha] at hl2
  exact lv_aload_n C.x C.b d rfl hl2 k2
theorem U_aload {g : GT} {Γ : CT} {cc : ByteArray} {own nm : String} {nL : Nat} {rt : Option FieldType} {lvl mc ms : Nat} {Q : State → Prop} {ce sl pc n : Nat} {lv : List (Nat × Value)} {st : List Value} {h : Hp} {x : Value} {i : Nat} (j : Nat) (C : Cx g Γ cc own nm nL rt lvl mc ms) (d : decode cc pc = .ok (.aload i, 2)) (hj : lv[j]? = some (i, x)) (hr : isR x = true) (hn : pc + 2 = n) (k : U g Γ nL Q ce sl n lv (x :: st) h) : U g Γ nL Q ce sl pc lv (st) h := by
  subst hn
  intro ad H locs ls I hL hS hl
  obtain ⟨a, ha⟩ := eV_ref g ad hr
  have hl2 := lv_atm g ad hl j hj
  have k2 := k ad H locs ls I hL (wS_cons (wL_at hL hj) hS) hl
  rw [List.map_cons, ha] at k2
  rw [ha] at hl2
  exact lv_aload C.x C.b d hl2 k2
theorem U_istore_n {g : GT} {Γ : CT} {cc : ByteArray} {own nm : String} {nL : Nat} {rt : Option FieldType} {lvl mc ms : Nat} {Q : State → Prop} {ce sl pc n : Nat} {lv : List (Nat × Value)} {st : List Value} {h : Hp} {x : Int32} {i : Fin 4} {lv2 : List (Nat × Value)} (C : Cx g Γ cc own nm nL rt lvl mc ms) (d : decode cc pc = .ok (.istore_n i, 1)) (hb : (i.val < nL)) (hk : (i.val, .int x) :: lv.filter (fun q => !(q.1 == i.val) && !(q.1 + 1 == i.val && q.2.category == 2)) = lv2) (hn : pc + 1 = n) (k : U g Γ nL Q ce sl n lv2 st h) : U g Γ nL Q ce sl pc lv (.int x :: st) h := by
  subst hn
  intro ad H locs ls I hL hS hl
  refine lv_istore_n C.x C.b d rfl hl hb rfl (fun ls2 hl3 => k ad H locs ls2 I (hk ▸ wL_cons (wS_hd hS) (wL_filter hL)) (wS_tl hS) ?_)
  rw [← hk, List.map_cons, flt_map]
  exact hl3
theorem U_istore {g : GT} {Γ : CT} {cc : ByteArray} {own nm : String} {nL : Nat} {rt : Option FieldType} {lvl mc ms : Nat} {Q : State → Prop} {ce sl pc n : Nat} {lv : List (Nat × Value)} {st : List Value} {h : Hp} {x : Int32} {i : Nat} {lv2 : List (Nat × Value)} (C : Cx g Γ cc own nm nL rt lvl mc ms) (d : decode cc pc = .ok (.istore i, 2)) (hb : (i < nL)) (hk : (i, .int x) :: lv.filter (fun q => !(q.1 == i) && !(q.1 + 1 == i && q.2.category == 2)) = lv2) (hn : pc + 2 = n) (k : U g Γ nL Q ce sl n lv2 st h) : U g Γ nL Q ce sl pc lv (.int x :: st) h := by
  subst hn
  intro ad H locs ls I hL hS hl
  refine lv_istore C.x C.b d hl hb rfl (fun ls2 hl3 => k ad H locs ls2 I (hk ▸ wL_cons (wS_hd hS) (wL_filter hL)) (wS_tl hS) ?_)
  rw [← hk, List.map_cons, flt_map]
  exact hl3
theorem U_lstore_n {g : GT} {Γ : CT} {cc : ByteArray} {own nm : String} {nL : Nat} {rt : Option FieldType} {lvl mc ms : Nat} {Q : State → Prop} {ce sl pc n : Nat} {lv : List (Nat × Value)} {st : List Value} {h : Hp} {x : Int64} {i : Fin 4} {lv2 : List (Nat × Value)} (C : Cx g Γ cc own nm nL rt lvl mc ms) (d : decode cc pc = .ok (.lstore_n i, 1)) (hb : (i.val + 1 < nL)) (hk : (i.val, .long x) :: lv.filter (fun q => !(q.1 == i.val) && (!(q.1 == i.val + 1) && !(q.1 + 1 == i.val && q.2.category == 2))) = lv2) (hn : pc + 1 = n) (k : U g Γ nL Q ce sl n lv2 st h) : U g Γ nL Q ce sl pc lv (.long x :: st) h := by
  subst hn
  intro ad H locs ls I hL hS hl
  refine lv_lstore_n C.x C.b d rfl hl hb rfl (fun ls2 hl3 => k ad H locs ls2 I (hk ▸ wL_cons (wS_hd hS) (wL_filter hL)) (wS_tl hS) ?_)
  rw [← hk, List.map_cons, flt_map2]
  exact hl3
theorem U_lstore {g : GT} {Γ : CT} {cc : ByteArray} {own nm : String} {nL : Nat} {rt : Option FieldType} {lvl mc ms : Nat} {Q : State → Prop} {ce sl pc n : Nat} {lv : List (Nat × Value)} {st : List Value} {h : Hp} {x : Int64} {i : Nat} {lv2 : List (Nat × Value)} (C : Cx g Γ cc own nm nL rt lvl mc ms) (d : decode cc pc = .ok (.lstore i, 2)) (hb : (i + 1 < nL)) (hk : (i, .long x) :: lv.filter (fun q => !(q.1 == i) && (!(q.1 == i + 1) && !(q.1 + 1 == i && q.2.category == 2))) = lv2) (hn : pc + 2 = n) (k : U g Γ nL Q ce sl n lv2 st h) : U g Γ nL Q ce sl pc lv (.long x :: st) h := by
  subst hn
  intro ad H locs ls I hL hS hl
  refine lv_lstore C.x C.b d hl hb rfl (fun ls2 hl3 => k ad H locs ls2 I (hk ▸ wL_cons (wS_hd hS) (wL_filter hL)) (wS_tl hS) ?_)
  rw [← hk, List.map_cons, flt_map2]
  exact hl3
theorem U_astore_n {g : GT} {Γ : CT} {cc : ByteArray} {own nm : String} {nL : Nat} {rt : Option FieldType} {lvl mc ms : Nat} {Q : State → Prop} {ce sl pc n : Nat} {lv : List (Nat × Value)} {st : List Value} {h : Hp} {x : Value} {i : Fin 4} {lv2 : List (Nat × Value)} (C : Cx g Γ cc own nm nL rt lvl mc ms) (d : decode cc pc = .ok (.astore_n i, 1)) (hr : isR x = true) (hb : (i.val < nL)) (hk : (i.val, x) :: lv.filter (fun q => !(q.1 == i.val) && !(q.1 + 1 == i.val && q.2.category == 2)) = lv2) (hn : pc + 1 = n) (k : U g Γ nL Q ce sl n lv2 st h) : U g Γ nL Q ce sl pc lv (x :: st) h := by
  subst hn
  intro ad H locs ls I hL hS hl
  obtain ⟨a, ha⟩ := eV_ref g ad hr
  have hl2 : lv_has ls nL (lv.map fun q => (q.1, eV g ad q.2)) := hl
  show W _ _ _ _ _ _ _ _ _ _ _ _ _ _ _ (F0 _ _ _ (eV g ad x :: st.map (eV g ad)))
  rw [ha]
  refine lv_astore_n C.x C.b d rfl hl2 hb rfl (fun ls2 hl3 => k ad H locs ls2 I (hk ▸ wL_cons (wS_hd hS) (wL_filter hL)) (wS_tl hS) ?_)
  rw [← hk, List.map_cons, ha, flt_map]
  exact hl3
theorem U_astore {g : GT} {Γ : CT} {cc : ByteArray} {own nm : String} {nL : Nat} {rt : Option FieldType} {lvl mc ms : Nat} {Q : State → Prop} {ce sl pc n : Nat} {lv : List (Nat × Value)} {st : List Value} {h : Hp} {x : Value} {i : Nat} {lv2 : List (Nat × Value)} (C : Cx g Γ cc own nm nL rt lvl mc ms) (d : decode cc pc = .ok (.astore i, 2)) (hr : isR x = true) (hb : (i < nL)) (hk : (i, x) :: lv.filter (fun q => !(q.1 == i) && !(q.1 + 1 == i && q.2.category == 2)) = lv2) (hn : pc + 2 = n) (k : U g Γ nL Q ce sl n lv2 st h) : U g Γ nL Q ce sl pc lv (x :: st) h := by
  subst hn
  intro ad H locs ls I hL hS hl
  obtain ⟨a, ha⟩ := eV_ref g ad hr
  have hl2 : lv_has ls nL (lv.map fun q => (q.1, eV g ad q.2)) := hl
  show W _ _ _ _ _ _ _ _ _ _ _ _ _ _ _ (F0 _ _ _ (eV g ad x :: st.map (eV g ad)))
  rw [ha]
  refine lv_astore C.x C.b d hl2 hb rfl (fun ls2 hl3 => k ad H locs ls2 I (hk ▸ wL_cons (wS_hd hS) (wL_filter hL)) (wS_tl hS) ?_)
  rw [← hk, List.map_cons, ha, flt_map]
  exact hl3
theorem U_iinc {g : GT} {Γ : CT} {cc : ByteArray} {own nm : String} {nL : Nat} {rt : Option FieldType} {lvl mc ms : Nat} {Q : State → Prop} {ce sl pc n : Nat} {lv : List (Nat × Value)} {st : List Value} {h : Hp} {x v : Int32} {i : Nat} {m : Int} {lv2 : List (Nat × Value)} (j : Nat) (C : Cx g Γ cc own nm nL rt lvl mc ms) (d : decode cc pc = .ok (.iinc i m, 3)) (hj : lv[j]? = some (i, .int x)) (hv : x + Int32.ofInt m = v) (hb : i < nL) (hk : (i, Value.int v) :: lv.filter (fun q => !(q.1 == i) && !(q.1 + 1 == i && q.2.category == 2)) = lv2) (hn : pc + 3 = n) (k : U g Γ nL Q ce sl n lv2 st h) : U g Γ nL Q ce sl pc lv st h := by
  subst hn
  intro ad H locs ls I hL hS hl
  refine lv_iinc C.x C.b d hl (lv_mapm g ad hj) hv hb rfl (fun ls2 hl3 => k ad H locs ls2 I (hk ▸ wL_cons (wV_int _) (wL_filter hL)) hS ?_)
  rw [← hk, List.map_cons, flt_map]
  exact hl3
theorem U_dup {g : GT} {Γ : CT} {cc : ByteArray} {own nm : String} {nL : Nat} {rt : Option FieldType} {lvl mc ms : Nat} {Q : State → Prop} {ce sl pc n : Nat} {lv : List (Nat × Value)} {st : List Value} {h : Hp} {x : Value} (C : Cx g Γ cc own nm nL rt lvl mc ms) (d : decode cc pc = .ok (.dup, 1)) (hc : x.category = 1) (hn : pc + 1 = n) (k : U g Γ nL Q ce sl n lv (x :: x :: st) h) : U g Γ nL Q ce sl pc lv (x :: st) h := by
  subst hn
  intro ad H locs ls I hL hS hl
  exact lv_dup C.x C.b d (by rw [eV_cat]; exact hc) (k ad H locs ls I hL (wS_cons (wS_hd hS) hS) hl)
theorem U_pop {g : GT} {Γ : CT} {cc : ByteArray} {own nm : String} {nL : Nat} {rt : Option FieldType} {lvl mc ms : Nat} {Q : State → Prop} {ce sl pc n : Nat} {lv : List (Nat × Value)} {st : List Value} {h : Hp} {x : Value} (C : Cx g Γ cc own nm nL rt lvl mc ms) (d : decode cc pc = .ok (.pop, 1)) (hc : x.category = 1) (hn : pc + 1 = n) (k : U g Γ nL Q ce sl n lv (st) h) : U g Γ nL Q ce sl pc lv (x :: st) h := by
  subst hn
  intro ad H locs ls I hL hS hl
  exact lv_pop C.x C.b d (by rw [eV_cat]; exact hc) (k ad H locs ls I hL (wS_tl hS) hl)
theorem U_dup2 {g : GT} {Γ : CT} {cc : ByteArray} {own nm : String} {nL : Nat} {rt : Option FieldType} {lvl mc ms : Nat} {Q : State → Prop} {ce sl pc n : Nat} {lv : List (Nat × Value)} {st : List Value} {h : Hp} {x y : Value} (C : Cx g Γ cc own nm nL rt lvl mc ms) (d : decode cc pc = .ok (.dup2, 1)) (hc : x.category = 1) (hc2 : y.category = 1) (hn : pc + 1 = n) (k : U g Γ nL Q ce sl n lv (x :: y :: x :: y :: st) h) : U g Γ nL Q ce sl pc lv (x :: y :: st) h := by
  subst hn
  intro ad H locs ls I hL hS hl
  exact lv_dup2_11 C.x C.b d (by rw [eV_cat]; exact hc) (by rw [eV_cat]; exact hc2) (k ad H locs ls I hL (wS_cons (wS_hd hS) (wS_cons (wS_hd (wS_tl hS)) hS)) hl)
theorem U_ifeq {g : GT} {Γ : CT} {cc : ByteArray} {own nm : String} {nL : Nat} {rt : Option FieldType} {lvl mc ms : Nat} {Q : State → Prop} {ce sl pc n : Nat} {lv : List (Nat × Value)} {st : List Value} {h : Hp} {x : Int32} {tgt : Nat} {off : Int} (C : Cx g Γ cc own nm nL rt lvl mc ms) (d : decode cc pc = .ok (.ifCond .eq off, 3)) (ht : (pc : Int) + off = (tgt : Int)) (hn : pc + 3 = n) (kt : x = 0 → U g Γ nL Q ce sl tgt lv st h) (kf : ¬ (x = 0) → U g Γ nL Q ce sl n lv st h) : U g Γ nL Q ce sl pc lv (.int x :: st) h := by
  subst hn
  intro ad H locs ls I hL hS hl
  exact lv_if_eq C.x C.b d ht (fun c => kt c ad H locs ls I hL (wS_tl hS) hl) (fun c => kf c ad H locs ls I hL (wS_tl hS) hl)
theorem U_iceq {g : GT} {Γ : CT} {cc : ByteArray} {own nm : String} {nL : Nat} {rt : Option FieldType} {lvl mc ms : Nat} {Q : State → Prop} {ce sl pc n : Nat} {lv : List (Nat × Value)} {st : List Value} {h : Hp} {x y : Int32} {tgt : Nat} {off : Int} (C : Cx g Γ cc own nm nL rt lvl mc ms) (d : decode cc pc = .ok (.if_icmp .eq off, 3)) (ht : (pc : Int) + off = (tgt : Int)) (hn : pc + 3 = n) (kt : x = y → U g Γ nL Q ce sl tgt lv st h) (kf : ¬ (x = y) → U g Γ nL Q ce sl n lv st h) : U g Γ nL Q ce sl pc lv (.int y :: .int x :: st) h := by
  subst hn
  intro ad H locs ls I hL hS hl
  exact lv_icmp_eq C.x C.b d ht (fun c => kt c ad H locs ls I hL (wS_tl (wS_tl hS)) hl) (fun c => kf c ad H locs ls I hL (wS_tl (wS_tl hS)) hl)
theorem U_iflt {g : GT} {Γ : CT} {cc : ByteArray} {own nm : String} {nL : Nat} {rt : Option FieldType} {lvl mc ms : Nat} {Q : State → Prop} {ce sl pc n : Nat} {lv : List (Nat × Value)} {st : List Value} {h : Hp} {x : Int32} {tgt : Nat} {off : Int} (C : Cx g Γ cc own nm nL rt lvl mc ms) (d : decode cc pc = .ok (.ifCond .lt off, 3)) (ht : (pc : Int) + off = (tgt : Int)) (hn : pc + 3 = n) (kt : x < 0 → U g Γ nL Q ce sl tgt lv st h) (kf : ¬ (x < 0) → U g Γ nL Q ce sl n lv st h) : U g Γ nL Q ce sl pc lv (.int x :: st) h := by
  subst hn
  intro ad H locs ls I hL hS hl
  exact lv_if_lt C.x C.b d ht (fun c => kt c ad H locs ls I hL (wS_tl hS) hl) (fun c => kf c ad H locs ls I hL (wS_tl hS) hl)
theorem U_iclt {g : GT} {Γ : CT} {cc : ByteArray} {own nm : String} {nL : Nat} {rt : Option FieldType} {lvl mc ms : Nat} {Q : State → Prop} {ce sl pc n : Nat} {lv : List (Nat × Value)} {st : List Value} {h : Hp} {x y : Int32} {tgt : Nat} {off : Int} (C : Cx g Γ cc own nm nL rt lvl mc ms) (d : decode cc pc = .ok (.if_icmp .lt off, 3)) (ht : (pc : Int) + off = (tgt : Int)) (hn : pc + 3 = n) (kt : x < y → U g Γ nL Q ce sl tgt lv st h) (kf : ¬ (x < y) → U g Γ nL Q ce sl n lv st h) : U g Γ nL Q ce sl pc lv (.int y :: .int x :: st) h := by
  subst hn
  intro ad H locs ls I hL hS hl
  exact lv_icmp_lt C.x C.b d ht (fun c => kt c ad H locs ls I hL (wS_tl (wS_tl hS)) hl) (fun c => kf c ad H locs ls I hL (wS_tl (wS_tl hS)) hl)
theorem U_ifge {g : GT} {Γ : CT} {cc : ByteArray} {own nm : String} {nL : Nat} {rt : Option FieldType} {lvl mc ms : Nat} {Q : State → Prop} {ce sl pc n : Nat} {lv : List (Nat × Value)} {st : List Value} {h : Hp} {x : Int32} {tgt : Nat} {off : Int} (C : Cx g Γ cc own nm nL rt lvl mc ms) (d : decode cc pc = .ok (.ifCond .ge off, 3)) (ht : (pc : Int) + off = (tgt : Int)) (hn : pc + 3 = n) (kt : 0 ≤ x → U g Γ nL Q ce sl tgt lv st h) (kf : ¬ (0 ≤ x) → U g Γ nL Q ce sl n lv st h) : U g Γ nL Q ce sl pc lv (.int x :: st) h := by
  subst hn
  intro ad H locs ls I hL hS hl
  exact lv_if_ge C.x C.b d ht (fun c => kt c ad H locs ls I hL (wS_tl hS) hl) (fun c => kf c ad H locs ls I hL (wS_tl hS) hl)
theorem U_icge {g : GT} {Γ : CT} {cc : ByteArray} {own nm : String} {nL : Nat} {rt : Option FieldType} {lvl mc ms : Nat} {Q : State → Prop} {ce sl pc n : Nat} {lv : List (Nat × Value)} {st : List Value} {h : Hp} {x y : Int32} {tgt : Nat} {off : Int} (C : Cx g Γ cc own nm nL rt lvl mc ms) (d : decode cc pc = .ok (.if_icmp .ge off, 3)) (ht : (pc : Int) + off = (tgt : Int)) (hn : pc + 3 = n) (kt : y ≤ x → U g Γ nL Q ce sl tgt lv st h) (kf : ¬ (y ≤ x) → U g Γ nL Q ce sl n lv st h) : U g Γ nL Q ce sl pc lv (.int y :: .int x :: st) h := by
  subst hn
  intro ad H locs ls I hL hS hl
  exact lv_icmp_ge C.x C.b d ht (fun c => kt c ad H locs ls I hL (wS_tl (wS_tl hS)) hl) (fun c => kf c ad H locs ls I hL (wS_tl (wS_tl hS)) hl)
theorem U_ifgt {g : GT} {Γ : CT} {cc : ByteArray} {own nm : String} {nL : Nat} {rt : Option FieldType} {lvl mc ms : Nat} {Q : State → Prop} {ce sl pc n : Nat} {lv : List (Nat × Value)} {st : List Value} {h : Hp} {x : Int32} {tgt : Nat} {off : Int} (C : Cx g Γ cc own nm nL rt lvl mc ms) (d : decode cc pc = .ok (.ifCond .gt off, 3)) (ht : (pc : Int) + off = (tgt : Int)) (hn : pc + 3 = n) (kt : 0 < x → U g Γ nL Q ce sl tgt lv st h) (kf : ¬ (0 < x) → U g Γ nL Q ce sl n lv st h) : U g Γ nL Q ce sl pc lv (.int x :: st) h := by
  subst hn
  intro ad H locs ls I hL hS hl
  exact lv_if_gt C.x C.b d ht (fun c => kt c ad H locs ls I hL (wS_tl hS) hl) (fun c => kf c ad H locs ls I hL (wS_tl hS) hl)
theorem U_icgt {g : GT} {Γ : CT} {cc : ByteArray} {own nm : String} {nL : Nat} {rt : Option FieldType} {lvl mc ms : Nat} {Q : State → Prop} {ce sl pc n : Nat} {lv : List (Nat × Value)} {st : List Value} {h : Hp} {x y : Int32} {tgt : Nat} {off : Int} (C : Cx g Γ cc own nm nL rt lvl mc ms) (d : decode cc pc = .ok (.if_icmp .gt off, 3)) (ht : (pc : Int) + off = (tgt : Int)) (hn : pc + 3 = n) (kt : y < x → U g Γ nL Q ce sl tgt lv st h) (kf : ¬ (y < x) → U g Γ nL Q ce sl n lv st h) : U g Γ nL Q ce sl pc lv (.int y :: .int x :: st) h := by
  subst hn
  intro ad H locs ls I hL hS hl
  exact lv_icmp_gt C.x C.b d ht (fun c => kt c ad H locs ls I hL (wS_tl (wS_tl hS)) hl) (fun c => kf c ad H locs ls I hL (wS_tl (wS_tl hS)) hl)
theorem U_ifle {g : GT} {Γ : CT} {cc : ByteArray} {own nm : String} {nL : Nat} {rt : Option FieldType} {lvl mc ms : Nat} {Q : State → Prop} {ce sl pc n : Nat} {lv : List (Nat × Value)} {st : List Value} {h : Hp} {x : Int32} {tgt : Nat} {off : Int} (C : Cx g Γ cc own nm nL rt lvl mc ms) (d : decode cc pc = .ok (.ifCond .le off, 3)) (ht : (pc : Int) + off = (tgt : Int)) (hn : pc + 3 = n) (kt : x ≤ 0 → U g Γ nL Q ce sl tgt lv st h) (kf : ¬ (x ≤ 0) → U g Γ nL Q ce sl n lv st h) : U g Γ nL Q ce sl pc lv (.int x :: st) h := by
  subst hn
  intro ad H locs ls I hL hS hl
  exact lv_if_le C.x C.b d ht (fun c => kt c ad H locs ls I hL (wS_tl hS) hl) (fun c => kf c ad H locs ls I hL (wS_tl hS) hl)
theorem U_icle {g : GT} {Γ : CT} {cc : ByteArray} {own nm : String} {nL : Nat} {rt : Option FieldType} {lvl mc ms : Nat} {Q : State → Prop} {ce sl pc n : Nat} {lv : List (Nat × Value)} {st : List Value} {h : Hp} {x y : Int32} {tgt : Nat} {off : Int} (C : Cx g Γ cc own nm nL rt lvl mc ms) (d : decode cc pc = .ok (.if_icmp .le off, 3)) (ht : (pc : Int) + off = (tgt : Int)) (hn : pc + 3 = n) (kt : x ≤ y → U g Γ nL Q ce sl tgt lv st h) (kf : ¬ (x ≤ y) → U g Γ nL Q ce sl n lv st h) : U g Γ nL Q ce sl pc lv (.int y :: .int x :: st) h := by
  subst hn
  intro ad H locs ls I hL hS hl
  exact lv_icmp_le C.x C.b d ht (fun c => kt c ad H locs ls I hL (wS_tl (wS_tl hS)) hl) (fun c => kf c ad H locs ls I hL (wS_tl (wS_tl hS)) hl)
theorem U_ifne {g : GT} {Γ : CT} {cc : ByteArray} {own nm : String} {nL : Nat} {rt : Option FieldType} {lvl mc ms : Nat} {Q : State → Prop} {ce sl pc n : Nat} {lv : List (Nat × Value)} {st : List Value} {h : Hp} {x : Int32} {tgt : Nat} {off : Int} (C : Cx g Γ cc own nm nL rt lvl mc ms) (d : decode cc pc = .ok (.ifCond .ne off, 3)) (ht : (pc : Int) + off = (tgt : Int)) (hn : pc + 3 = n) (kt : x = 0 → U g Γ nL Q ce sl n lv st h) (kf : ¬ (x = 0) → U g Γ nL Q ce sl tgt lv st h) : U g Γ nL Q ce sl pc lv (.int x :: st) h := by
  subst hn
  intro ad H locs ls I hL hS hl
  exact lv_if_ne C.x C.b d ht (fun c => kf c ad H locs ls I hL (wS_tl hS) hl) (fun c => kt c ad H locs ls I hL (wS_tl hS) hl)
theorem U_icne {g : GT} {Γ : CT} {cc : ByteArray} {own nm : String} {nL : Nat} {rt : Option FieldType} {lvl mc ms : Nat} {Q : State → Prop} {ce sl pc n : Nat} {lv : List (Nat × Value)} {st : List Value} {h : Hp} {x y : Int32} {tgt : Nat} {off : Int} (C : Cx g Γ cc own nm nL rt lvl mc ms) (d : decode cc pc = .ok (.if_icmp .ne off, 3)) (ht : (pc : Int) + off = (tgt : Int)) (hn : pc + 3 = n) (kt : x = y → U g Γ nL Q ce sl n lv st h) (kf : ¬ (x = y) → U g Γ nL Q ce sl tgt lv st h) : U g Γ nL Q ce sl pc lv (.int y :: .int x :: st) h := by
  subst hn
  intro ad H locs ls I hL hS hl
  exact lv_icmp_ne C.x C.b d ht (fun c => kf c ad H locs ls I hL (wS_tl (wS_tl hS)) hl) (fun c => kt c ad H locs ls I hL (wS_tl (wS_tl hS)) hl)
theorem U_goto {g : GT} {Γ : CT} {cc : ByteArray} {own nm : String} {nL : Nat} {rt : Option FieldType} {lvl mc ms : Nat} {Q : State → Prop} {ce sl pc n : Nat} {lv : List (Nat × Value)} {st : List Value} {h : Hp} {tgt : Nat} {off : Int} (C : Cx g Γ cc own nm nL rt lvl mc ms) (d : decode cc pc = .ok (.goto off, 3)) (ht : (pc : Int) + off = (tgt : Int)) (k : U g Γ nL Q ce sl tgt lv st h) : U g Γ nL Q ce sl pc lv st h := fun ad H locs ls I hL hS hl => lv_goto C.x C.b d ht (k ad H locs ls I hL hS hl)
