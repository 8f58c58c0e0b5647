-- ===== PART A: goes FIRST, ahead of the names: the tables' words, and 'selects' of the private methods out of them =====
/-- a private method of a class that the tables say can be made, by its rows of tables_1 -/
def lw_okq (q : MethodName × Nat) : Prop := (q.1.cls ≠ "java/lang/invoke/MethodHandle" ∧ q.1.cls ≠ "java/lang/invoke/VarHandle") ∧ Cond.instantiable q.1.cls q.2 ∈ tables_1 ∧ Cond.privateMethod q.1 ∈ tables_1 ∧ Cond.instanceMethod q.1 ∈ tables_1
theorem lw_p0 : lw_okq (⟨"TripleSigns$State", "clearFor", "(I)V"⟩, 10) := ⟨⟨by decide +kernel, by decide +kernel⟩, List.mem_of_getElem? (i := 70) (by decide +kernel), List.mem_of_getElem? (i := 144) (by decide +kernel), List.mem_of_getElem? (i := 145) (by decide +kernel)⟩
theorem lw_p1 : lw_okq (⟨"TripleSigns$State", "setUnknown", "(I)V"⟩, 10) := ⟨⟨by decide +kernel, by decide +kernel⟩, List.mem_of_getElem? (i := 70) (by decide +kernel), List.mem_of_getElem? (i := 148) (by decide +kernel), List.mem_of_getElem? (i := 149) (by decide +kernel)⟩
theorem lw_p2 : lw_okq (⟨"TripleSigns$Layout", "arrange", "(I)V"⟩, 10) := ⟨⟨by decide +kernel, by decide +kernel⟩, List.mem_of_getElem? (i := 28) (by decide +kernel), List.mem_of_getElem? (i := 155) (by decide +kernel), List.mem_of_getElem? (i := 156) (by decide +kernel)⟩
theorem lw_p3 : lw_okq (⟨"TripleSigns$Layout", "arrangeTriples", "()V"⟩, 10) := ⟨⟨by decide +kernel, by decide +kernel⟩, List.mem_of_getElem? (i := 28) (by decide +kernel), List.mem_of_getElem? (i := 159) (by decide +kernel), List.mem_of_getElem? (i := 160) (by decide +kernel)⟩
theorem lw_p4 : lw_okq (⟨"TripleSigns$Layout", "addTriple", "(III)V"⟩, 10) := ⟨⟨by decide +kernel, by decide +kernel⟩, List.mem_of_getElem? (i := 28) (by decide +kernel), List.mem_of_getElem? (i := 163) (by decide +kernel), List.mem_of_getElem? (i := 164) (by decide +kernel)⟩
theorem lw_p5 : lw_okq (⟨"TripleSigns$Layout", "enter", "(IIII)V"⟩, 10) := ⟨⟨by decide +kernel, by decide +kernel⟩, List.mem_of_getElem? (i := 28) (by decide +kernel), List.mem_of_getElem? (i := 167) (by decide +kernel), List.mem_of_getElem? (i := 168) (by decide +kernel)⟩
theorem lw_p6 : lw_okq (⟨"TripleSigns$Layout", "arrangeRelations", "(I)V"⟩, 10) := ⟨⟨by decide +kernel, by decide +kernel⟩, List.mem_of_getElem? (i := 28) (by decide +kernel), List.mem_of_getElem? (i := 174) (by decide +kernel), List.mem_of_getElem? (i := 175) (by decide +kernel)⟩
theorem lw_p7 : lw_okq (⟨"TripleSigns$Layout", "addRelation", "(IIIII)V"⟩, 10) := ⟨⟨by decide +kernel, by decide +kernel⟩, List.mem_of_getElem? (i := 28) (by decide +kernel), List.mem_of_getElem? (i := 178) (by decide +kernel), List.mem_of_getElem? (i := 179) (by decide +kernel)⟩
theorem lw_p8 : lw_okq (⟨"TripleSigns$Layout", "setProduct", "(IIII)V"⟩, 10) := ⟨⟨by decide +kernel, by decide +kernel⟩, List.mem_of_getElem? (i := 28) (by decide +kernel), List.mem_of_getElem? (i := 182) (by decide +kernel), List.mem_of_getElem? (i := 183) (by decide +kernel)⟩
theorem lw_p9 : lw_okq (⟨"TripleSigns", "save", "()V"⟩, 12) := ⟨⟨by decide +kernel, by decide +kernel⟩, List.mem_of_getElem? (i := 20) (by decide +kernel), List.mem_of_getElem? (i := 227) (by decide +kernel), List.mem_of_getElem? (i := 228) (by decide +kernel)⟩
theorem lw_p10 : lw_okq (⟨"TripleSigns$State", "copyFrom", "(LTripleSigns$State;)V"⟩, 10) := ⟨⟨by decide +kernel, by decide +kernel⟩, List.mem_of_getElem? (i := 70) (by decide +kernel), List.mem_of_getElem? (i := 231) (by decide +kernel), List.mem_of_getElem? (i := 232) (by decide +kernel)⟩
theorem lw_p11 : lw_okq (⟨"TripleSigns$State", "forgetDerived", "()I"⟩, 10) := ⟨⟨by decide +kernel, by decide +kernel⟩, List.mem_of_getElem? (i := 70) (by decide +kernel), List.mem_of_getElem? (i := 238) (by decide +kernel), List.mem_of_getElem? (i := 239) (by decide +kernel)⟩
theorem lw_p12 : lw_okq (⟨"TripleSigns", "deriveAll", "()I"⟩, 12) := ⟨⟨by decide +kernel, by decide +kernel⟩, List.mem_of_getElem? (i := 20) (by decide +kernel), List.mem_of_getElem? (i := 246) (by decide +kernel), List.mem_of_getElem? (i := 247) (by decide +kernel)⟩
theorem lw_p13 : lw_okq (⟨"TripleSigns$State", "countKind", "(II)I"⟩, 10) := ⟨⟨by decide +kernel, by decide +kernel⟩, List.mem_of_getElem? (i := 70) (by decide +kernel), List.mem_of_getElem? (i := 250) (by decide +kernel), List.mem_of_getElem? (i := 251) (by decide +kernel)⟩
theorem lw_p14 : lw_okq (⟨"TripleSigns", "deriveOnce", "()Z"⟩, 12) := ⟨⟨by decide +kernel, by decide +kernel⟩, List.mem_of_getElem? (i := 20) (by decide +kernel), List.mem_of_getElem? (i := 254) (by decide +kernel), List.mem_of_getElem? (i := 255) (by decide +kernel)⟩
theorem lw_p15 : lw_okq (⟨"TripleSigns$Layout", "unknownIn", "(I[I)I"⟩, 10) := ⟨⟨by decide +kernel, by decide +kernel⟩, List.mem_of_getElem? (i := 28) (by decide +kernel), List.mem_of_getElem? (i := 258) (by decide +kernel), List.mem_of_getElem? (i := 259) (by decide +kernel)⟩
def lw_privs_1 : List (MethodName × Nat) := [(⟨"TripleSigns$State", "clearFor", "(I)V"⟩, 10), (⟨"TripleSigns$State", "setUnknown", "(I)V"⟩, 10), (⟨"TripleSigns$Layout", "arrange", "(I)V"⟩, 10), (⟨"TripleSigns$Layout", "arrangeTriples", "()V"⟩, 10), (⟨"TripleSigns$Layout", "addTriple", "(III)V"⟩, 10), (⟨"TripleSigns$Layout", "enter", "(IIII)V"⟩, 10), (⟨"TripleSigns$Layout", "arrangeRelations", "(I)V"⟩, 10), (⟨"TripleSigns$Layout", "addRelation", "(IIIII)V"⟩, 10), (⟨"TripleSigns$Layout", "setProduct", "(IIII)V"⟩, 10), (⟨"TripleSigns", "save", "()V"⟩, 12), (⟨"TripleSigns$State", "copyFrom", "(LTripleSigns$State;)V"⟩, 10), (⟨"TripleSigns$State", "forgetDerived", "()I"⟩, 10), (⟨"TripleSigns", "deriveAll", "()I"⟩, 12), (⟨"TripleSigns$State", "countKind", "(II)I"⟩, 10), (⟨"TripleSigns", "deriveOnce", "()Z"⟩, 12), (⟨"TripleSigns$Layout", "unknownIn", "(I[I)I"⟩, 10)]
theorem lw_r1 : ∀ q ∈ lw_privs_1, lw_okq q := List.forall_mem_cons.mpr ⟨lw_p0, List.forall_mem_cons.mpr ⟨lw_p1, List.forall_mem_cons.mpr ⟨lw_p2, List.forall_mem_cons.mpr ⟨lw_p3, List.forall_mem_cons.mpr ⟨lw_p4, List.forall_mem_cons.mpr ⟨lw_p5, List.forall_mem_cons.mpr ⟨lw_p6, List.forall_mem_cons.mpr ⟨lw_p7, List.forall_mem_cons.mpr ⟨lw_p8, List.forall_mem_cons.mpr ⟨lw_p9, List.forall_mem_cons.mpr ⟨lw_p10, List.forall_mem_cons.mpr ⟨lw_p11, List.forall_mem_cons.mpr ⟨lw_p12, List.forall_mem_cons.mpr ⟨lw_p13, List.forall_mem_cons.mpr ⟨lw_p14, List.forall_mem_cons.mpr ⟨lw_p15, fun _ h => absurd h List.not_mem_nil⟩⟩⟩⟩⟩⟩⟩⟩⟩⟩⟩⟩⟩⟩⟩⟩
theorem lw_p16 : lw_okq (⟨"TripleSigns", "deriveFrom", "(I)Z"⟩, 12) := ⟨⟨by decide +kernel, by decide +kernel⟩, List.mem_of_getElem? (i := 20) (by decide +kernel), List.mem_of_getElem? (i := 262) (by decide +kernel), List.mem_of_getElem? (i := 263) (by decide +kernel)⟩
theorem lw_p17 : lw_okq (⟨"TripleSigns$Layout", "firstUnknownIn", "(I[I)I"⟩, 10) := ⟨⟨by decide +kernel, by decide +kernel⟩, List.mem_of_getElem? (i := 28) (by decide +kernel), List.mem_of_getElem? (i := 266) (by decide +kernel), List.mem_of_getElem? (i := 267) (by decide +kernel)⟩
theorem lw_p18 : lw_okq (⟨"TripleSigns$Layout", "factor", "(II)I"⟩, 10) := ⟨⟨by decide +kernel, by decide +kernel⟩, List.mem_of_getElem? (i := 28) (by decide +kernel), List.mem_of_getElem? (i := 270) (by decide +kernel), List.mem_of_getElem? (i := 271) (by decide +kernel)⟩
theorem lw_p19 : lw_okq (⟨"TripleSigns$Layout", "verdict", "(I[I)I"⟩, 10) := ⟨⟨by decide +kernel, by decide +kernel⟩, List.mem_of_getElem? (i := 28) (by decide +kernel), List.mem_of_getElem? (i := 274) (by decide +kernel), List.mem_of_getElem? (i := 275) (by decide +kernel)⟩
theorem lw_p20 : lw_okq (⟨"TripleSigns", "reasonsOf", "(I)J"⟩, 12) := ⟨⟨by decide +kernel, by decide +kernel⟩, List.mem_of_getElem? (i := 20) (by decide +kernel), List.mem_of_getElem? (i := 279) (by decide +kernel), List.mem_of_getElem? (i := 280) (by decide +kernel)⟩
theorem lw_p21 : lw_okq (⟨"TripleSigns$State", "setDerived", "(IIIIJ)V"⟩, 10) := ⟨⟨by decide +kernel, by decide +kernel⟩, List.mem_of_getElem? (i := 70) (by decide +kernel), List.mem_of_getElem? (i := 284) (by decide +kernel), List.mem_of_getElem? (i := 285) (by decide +kernel)⟩
theorem lw_p22 : lw_okq (⟨"TripleSigns", "negateAll", "()I"⟩, 12) := ⟨⟨by decide +kernel, by decide +kernel⟩, List.mem_of_getElem? (i := 20) (by decide +kernel), List.mem_of_getElem? (i := 296) (by decide +kernel), List.mem_of_getElem? (i := 297) (by decide +kernel)⟩
theorem lw_p23 : lw_okq (⟨"TripleSigns$Layout", "signAt", "(I[I[I)I"⟩, 10) := ⟨⟨by decide +kernel, by decide +kernel⟩, List.mem_of_getElem? (i := 28) (by decide +kernel), List.mem_of_getElem? (i := 304) (by decide +kernel), List.mem_of_getElem? (i := 305) (by decide +kernel)⟩
theorem lw_p24 : lw_okq (⟨"TripleSigns$Layout", "corner", "(II)I"⟩, 10) := ⟨⟨by decide +kernel, by decide +kernel⟩, List.mem_of_getElem? (i := 28) (by decide +kernel), List.mem_of_getElem? (i := 308) (by decide +kernel), List.mem_of_getElem? (i := 309) (by decide +kernel)⟩
theorem lw_p25 : lw_okq (⟨"TripleSigns", "giveTriple", "(II)V"⟩, 12) := ⟨⟨by decide +kernel, by decide +kernel⟩, List.mem_of_getElem? (i := 20) (by decide +kernel), List.mem_of_getElem? (i := 315) (by decide +kernel), List.mem_of_getElem? (i := 316) (by decide +kernel)⟩
theorem lw_p26 : lw_okq (⟨"TripleSigns$State", "setGiven", "(II)V"⟩, 10) := ⟨⟨by decide +kernel, by decide +kernel⟩, List.mem_of_getElem? (i := 70) (by decide +kernel), List.mem_of_getElem? (i := 319) (by decide +kernel), List.mem_of_getElem? (i := 320) (by decide +kernel)⟩
theorem lw_p27 : lw_okq (⟨"TripleSigns", "mismatchesAt", "([I[I)I"⟩, 12) := ⟨⟨by decide +kernel, by decide +kernel⟩, List.mem_of_getElem? (i := 20) (by decide +kernel), List.mem_of_getElem? (i := 327) (by decide +kernel), List.mem_of_getElem? (i := 328) (by decide +kernel)⟩
theorem lw_p28 : lw_okq (⟨"TripleSigns$Script", "parse", "()I"⟩, 5) := ⟨⟨by decide +kernel, by decide +kernel⟩, List.mem_of_getElem? (i := 117) (by decide +kernel), List.mem_of_getElem? (i := 339) (by decide +kernel), List.mem_of_getElem? (i := 340) (by decide +kernel)⟩
theorem lw_p29 : lw_okq (⟨"TripleSigns$Script", "behindSpaces", "(I)I"⟩, 5) := ⟨⟨by decide +kernel, by decide +kernel⟩, List.mem_of_getElem? (i := 117) (by decide +kernel), List.mem_of_getElem? (i := 343) (by decide +kernel), List.mem_of_getElem? (i := 344) (by decide +kernel)⟩
theorem lw_p30 : lw_okq (⟨"TripleSigns$Script", "behindCommand", "(I)I"⟩, 5) := ⟨⟨by decide +kernel, by decide +kernel⟩, List.mem_of_getElem? (i := 117) (by decide +kernel), List.mem_of_getElem? (i := 347) (by decide +kernel), List.mem_of_getElem? (i := 348) (by decide +kernel)⟩
theorem lw_p31 : lw_okq (⟨"TripleSigns$Script", "behindLetters", "(I)I"⟩, 5) := ⟨⟨by decide +kernel, by decide +kernel⟩, List.mem_of_getElem? (i := 117) (by decide +kernel), List.mem_of_getElem? (i := 351) (by decide +kernel), List.mem_of_getElem? (i := 352) (by decide +kernel)⟩
def lw_privs_2 : List (MethodName × Nat) := [(⟨"TripleSigns", "deriveFrom", "(I)Z"⟩, 12), (⟨"TripleSigns$Layout", "firstUnknownIn", "(I[I)I"⟩, 10), (⟨"TripleSigns$Layout", "factor", "(II)I"⟩, 10), (⟨"TripleSigns$Layout", "verdict", "(I[I)I"⟩, 10), (⟨"TripleSigns", "reasonsOf", "(I)J"⟩, 12), (⟨"TripleSigns$State", "setDerived", "(IIIIJ)V"⟩, 10), (⟨"TripleSigns", "negateAll", "()I"⟩, 12), (⟨"TripleSigns$Layout", "signAt", "(I[I[I)I"⟩, 10), (⟨"TripleSigns$Layout", "corner", "(II)I"⟩, 10), (⟨"TripleSigns", "giveTriple", "(II)V"⟩, 12), (⟨"TripleSigns$State", "setGiven", "(II)V"⟩, 10), (⟨"TripleSigns", "mismatchesAt", "([I[I)I"⟩, 12), (⟨"TripleSigns$Script", "parse", "()I"⟩, 5), (⟨"TripleSigns$Script", "behindSpaces", "(I)I"⟩, 5), (⟨"TripleSigns$Script", "behindCommand", "(I)I"⟩, 5), (⟨"TripleSigns$Script", "behindLetters", "(I)I"⟩, 5)]
theorem lw_r2 : ∀ q ∈ lw_privs_2, lw_okq q := List.forall_mem_cons.mpr ⟨lw_p16, List.forall_mem_cons.mpr ⟨lw_p17, List.forall_mem_cons.mpr ⟨lw_p18, List.forall_mem_cons.mpr ⟨lw_p19, List.forall_mem_cons.mpr ⟨lw_p20, List.forall_mem_cons.mpr ⟨lw_p21, List.forall_mem_cons.mpr ⟨lw_p22, List.forall_mem_cons.mpr ⟨lw_p23, List.forall_mem_cons.mpr ⟨lw_p24, List.forall_mem_cons.mpr ⟨lw_p25, List.forall_mem_cons.mpr ⟨lw_p26, List.forall_mem_cons.mpr ⟨lw_p27, List.forall_mem_cons.mpr ⟨lw_p28, List.forall_mem_cons.mpr ⟨lw_p29, List.forall_mem_cons.mpr ⟨lw_p30, List.forall_mem_cons.mpr ⟨lw_p31, fun _ h => absurd h List.not_mem_nil⟩⟩⟩⟩⟩⟩⟩⟩⟩⟩⟩⟩⟩⟩⟩⟩
theorem lw_p32 : lw_okq (⟨"TripleSigns$Script", "wordBetween", "(II)I"⟩, 5) := ⟨⟨by decide +kernel, by decide +kernel⟩, List.mem_of_getElem? (i := 117) (by decide +kernel), List.mem_of_getElem? (i := 355) (by decide +kernel), List.mem_of_getElem? (i := 356) (by decide +kernel)⟩
theorem lw_p33 : lw_okq (⟨"TripleSigns$Script", "isSpelled", "(Ljava/lang/String;II)Z"⟩, 5) := ⟨⟨by decide +kernel, by decide +kernel⟩, List.mem_of_getElem? (i := 117) (by decide +kernel), List.mem_of_getElem? (i := 368) (by decide +kernel), List.mem_of_getElem? (i := 369) (by decide +kernel)⟩
theorem lw_p34 : lw_okq (⟨"TripleSigns$Script", "behindNames", "(I)I"⟩, 5) := ⟨⟨by decide +kernel, by decide +kernel⟩, List.mem_of_getElem? (i := 117) (by decide +kernel), List.mem_of_getElem? (i := 426) (by decide +kernel), List.mem_of_getElem? (i := 427) (by decide +kernel)⟩
theorem lw_p35 : lw_okq (⟨"TripleSigns", "carryOut", "(I)Z"⟩, 12) := ⟨⟨by decide +kernel, by decide +kernel⟩, List.mem_of_getElem? (i := 20) (by decide +kernel), List.mem_of_getElem? (i := 433) (by decide +kernel), List.mem_of_getElem? (i := 434) (by decide +kernel)⟩
theorem lw_p36 : lw_okq (⟨"TripleSigns$Script", "name", "(II)I"⟩, 5) := ⟨⟨by decide +kernel, by decide +kernel⟩, List.mem_of_getElem? (i := 117) (by decide +kernel), List.mem_of_getElem? (i := 437) (by decide +kernel), List.mem_of_getElem? (i := 438) (by decide +kernel)⟩
theorem lw_p37 : lw_okq (⟨"TripleSigns", "isPoint", "(I)Z"⟩, 12) := ⟨⟨by decide +kernel, by decide +kernel⟩, List.mem_of_getElem? (i := 20) (by decide +kernel), List.mem_of_getElem? (i := 441) (by decide +kernel), List.mem_of_getElem? (i := 442) (by decide +kernel)⟩
theorem lw_p38 : lw_okq (⟨"TripleSigns", "giveOrdered", "(IIII)V"⟩, 12) := ⟨⟨by decide +kernel, by decide +kernel⟩, List.mem_of_getElem? (i := 20) (by decide +kernel), List.mem_of_getElem? (i := 451) (by decide +kernel), List.mem_of_getElem? (i := 452) (by decide +kernel)⟩
theorem lw_p39 : lw_okq (⟨"TripleSigns$Layout", "numberOf", "(III)I"⟩, 10) := ⟨⟨by decide +kernel, by decide +kernel⟩, List.mem_of_getElem? (i := 28) (by decide +kernel), List.mem_of_getElem? (i := 455) (by decide +kernel), List.mem_of_getElem? (i := 456) (by decide +kernel)⟩
theorem lw_p40 : lw_okq (⟨"TripleSigns$Layout", "parity", "(III)I"⟩, 10) := ⟨⟨by decide +kernel, by decide +kernel⟩, List.mem_of_getElem? (i := 28) (by decide +kernel), List.mem_of_getElem? (i := 459) (by decide +kernel), List.mem_of_getElem? (i := 460) (by decide +kernel)⟩
theorem lw_p41 : lw_okq (⟨"TripleSigns", "takeAway", "(I)V"⟩, 12) := ⟨⟨by decide +kernel, by decide +kernel⟩, List.mem_of_getElem? (i := 20) (by decide +kernel), List.mem_of_getElem? (i := 463) (by decide +kernel), List.mem_of_getElem? (i := 464) (by decide +kernel)⟩
theorem lw_p42 : lw_okq (⟨"TripleSigns", "countComplete", "()I"⟩, 12) := ⟨⟨by decide +kernel, by decide +kernel⟩, List.mem_of_getElem? (i := 20) (by decide +kernel), List.mem_of_getElem? (i := 479) (by decide +kernel), List.mem_of_getElem? (i := 480) (by decide +kernel)⟩
theorem lw_p43 : lw_okq (⟨"TripleSigns", "countViolated", "()I"⟩, 12) := ⟨⟨by decide +kernel, by decide +kernel⟩, List.mem_of_getElem? (i := 20) (by decide +kernel), List.mem_of_getElem? (i := 483) (by decide +kernel), List.mem_of_getElem? (i := 484) (by decide +kernel)⟩
theorem lw_p44 : lw_okq (⟨"java/lang/Throwable", "fillInStackTrace", "(I)Ljava/lang/Throwable;"⟩, 6) := ⟨⟨by decide +kernel, by decide +kernel⟩, List.mem_of_getElem? (i := 525) (by decide +kernel), List.mem_of_getElem? (i := 523) (by decide +kernel), List.mem_of_getElem? (i := 524) (by decide +kernel)⟩
theorem lw_p45 : lw_okq (⟨"TripleSigns", "requireTriple", "(I)V"⟩, 12) := ⟨⟨by decide +kernel, by decide +kernel⟩, List.mem_of_getElem? (i := 20) (by decide +kernel), List.mem_of_getElem? (i := 558) (by decide +kernel), List.mem_of_getElem? (i := 559) (by decide +kernel)⟩
theorem lw_p46 : lw_okq (⟨"TripleSigns", "requireRelation", "(I)V"⟩, 12) := ⟨⟨by decide +kernel, by decide +kernel⟩, List.mem_of_getElem? (i := 20) (by decide +kernel), List.mem_of_getElem? (i := 587) (by decide +kernel), List.mem_of_getElem? (i := 588) (by decide +kernel)⟩
theorem lw_p47 : lw_okq (⟨"TripleSigns$Layout", "member", "(II)I"⟩, 10) := ⟨⟨by decide +kernel, by decide +kernel⟩, List.mem_of_getElem? (i := 28) (by decide +kernel), List.mem_of_getElem? (i := 592) (by decide +kernel), List.mem_of_getElem? (i := 593) (by decide +kernel)⟩
def lw_privs_3 : List (MethodName × Nat) := [(⟨"TripleSigns$Script", "wordBetween", "(II)I"⟩, 5), (⟨"TripleSigns$Script", "isSpelled", "(Ljava/lang/String;II)Z"⟩, 5), (⟨"TripleSigns$Script", "behindNames", "(I)I"⟩, 5), (⟨"TripleSigns", "carryOut", "(I)Z"⟩, 12), (⟨"TripleSigns$Script", "name", "(II)I"⟩, 5), (⟨"TripleSigns", "isPoint", "(I)Z"⟩, 12), (⟨"TripleSigns", "giveOrdered", "(IIII)V"⟩, 12), (⟨"TripleSigns$Layout", "numberOf", "(III)I"⟩, 10), (⟨"TripleSigns$Layout", "parity", "(III)I"⟩, 10), (⟨"TripleSigns", "takeAway", "(I)V"⟩, 12), (⟨"TripleSigns", "countComplete", "()I"⟩, 12), (⟨"TripleSigns", "countViolated", "()I"⟩, 12), (⟨"java/lang/Throwable", "fillInStackTrace", "(I)Ljava/lang/Throwable;"⟩, 6), (⟨"TripleSigns", "requireTriple", "(I)V"⟩, 12), (⟨"TripleSigns", "requireRelation", "(I)V"⟩, 12), (⟨"TripleSigns$Layout", "member", "(II)I"⟩, 10)]
theorem lw_r3 : ∀ q ∈ lw_privs_3, lw_okq q := List.forall_mem_cons.mpr ⟨lw_p32, List.forall_mem_cons.mpr ⟨lw_p33, List.forall_mem_cons.mpr ⟨lw_p34, List.forall_mem_cons.mpr ⟨lw_p35, List.forall_mem_cons.mpr ⟨lw_p36, List.forall_mem_cons.mpr ⟨lw_p37, List.forall_mem_cons.mpr ⟨lw_p38, List.forall_mem_cons.mpr ⟨lw_p39, List.forall_mem_cons.mpr ⟨lw_p40, List.forall_mem_cons.mpr ⟨lw_p41, List.forall_mem_cons.mpr ⟨lw_p42, List.forall_mem_cons.mpr ⟨lw_p43, List.forall_mem_cons.mpr ⟨lw_p44, List.forall_mem_cons.mpr ⟨lw_p45, List.forall_mem_cons.mpr ⟨lw_p46, List.forall_mem_cons.mpr ⟨lw_p47, fun _ h => absurd h List.not_mem_nil⟩⟩⟩⟩⟩⟩⟩⟩⟩⟩⟩⟩⟩⟩⟩⟩
theorem lw_p48 : lw_okq (⟨"TripleSigns", "requirePoint", "(I)V"⟩, 12) := ⟨⟨by decide +kernel, by decide +kernel⟩, List.mem_of_getElem? (i := 20) (by decide +kernel), List.mem_of_getElem? (i := 600) (by decide +kernel), List.mem_of_getElem? (i := 601) (by decide +kernel)⟩
theorem lw_p49 : lw_okq (⟨"TripleSigns", "borders", "(II)Z"⟩, 12) := ⟨⟨by decide +kernel, by decide +kernel⟩, List.mem_of_getElem? (i := 20) (by decide +kernel), List.mem_of_getElem? (i := 605) (by decide +kernel), List.mem_of_getElem? (i := 606) (by decide +kernel)⟩
theorem lw_p50 : lw_okq (⟨"TripleSigns", "orderedSign", "(III)I"⟩, 12) := ⟨⟨by decide +kernel, by decide +kernel⟩, List.mem_of_getElem? (i := 20) (by decide +kernel), List.mem_of_getElem? (i := 609) (by decide +kernel), List.mem_of_getElem? (i := 610) (by decide +kernel)⟩
theorem lw_p51 : lw_okq (⟨"TripleSigns$Layout", "hasCorner", "(II)Z"⟩, 10) := ⟨⟨by decide +kernel, by decide +kernel⟩, List.mem_of_getElem? (i := 28) (by decide +kernel), List.mem_of_getElem? (i := 671) (by decide +kernel), List.mem_of_getElem? (i := 672) (by decide +kernel)⟩
theorem lw_p52 : lw_okq (⟨"TripleSigns", "exchangeSigns", "(II)V"⟩, 12) := ⟨⟨by decide +kernel, by decide +kernel⟩, List.mem_of_getElem? (i := 20) (by decide +kernel), List.mem_of_getElem? (i := 683) (by decide +kernel), List.mem_of_getElem? (i := 684) (by decide +kernel)⟩
theorem lw_p53 : lw_okq (⟨"TripleSigns", "exchangeCoordinates", "(II)V"⟩, 12) := ⟨⟨by decide +kernel, by decide +kernel⟩, List.mem_of_getElem? (i := 20) (by decide +kernel), List.mem_of_getElem? (i := 690) (by decide +kernel), List.mem_of_getElem? (i := 691) (by decide +kernel)⟩
theorem lw_p54 : lw_okq (⟨"TripleSigns$Layout", "isViolatedWith", "(I[I)Z"⟩, 10) := ⟨⟨by decide +kernel, by decide +kernel⟩, List.mem_of_getElem? (i := 28) (by decide +kernel), List.mem_of_getElem? (i := 735) (by decide +kernel), List.mem_of_getElem? (i := 736) (by decide +kernel)⟩
theorem lw_p55 : lw_okq (⟨"TripleSigns", "lineMask", "(II)I"⟩, 12) := ⟨⟨by decide +kernel, by decide +kernel⟩, List.mem_of_getElem? (i := 20) (by decide +kernel), List.mem_of_getElem? (i := 760) (by decide +kernel), List.mem_of_getElem? (i := 761) (by decide +kernel)⟩
theorem lw_p56 : lw_okq (⟨"TripleSigns", "isListed", "(II)Z"⟩, 12) := ⟨⟨by decide +kernel, by decide +kernel⟩, List.mem_of_getElem? (i := 20) (by decide +kernel), List.mem_of_getElem? (i := 764) (by decide +kernel), List.mem_of_getElem? (i := 765) (by decide +kernel)⟩
theorem lw_p57 : lw_okq (⟨"TripleSigns", "tryPlacement", "(JI)J"⟩, 12) := ⟨⟨by decide +kernel, by decide +kernel⟩, List.mem_of_getElem? (i := 20) (by decide +kernel), List.mem_of_getElem? (i := 791) (by decide +kernel), List.mem_of_getElem? (i := 792) (by decide +kernel)⟩
theorem lw_p58 : lw_okq (⟨"TripleSigns", "copyPoints", "([I[I[I[I)V"⟩, 12) := ⟨⟨by decide +kernel, by decide +kernel⟩, List.mem_of_getElem? (i := 20) (by decide +kernel), List.mem_of_getElem? (i := 806) (by decide +kernel), List.mem_of_getElem? (i := 807) (by decide +kernel)⟩
theorem lw_p59 : lw_okq (⟨"TripleSigns", "writtenIn", "(ILjava/lang/String;I)I"⟩, 12) := ⟨⟨by decide +kernel, by decide +kernel⟩, List.mem_of_getElem? (i := 20) (by decide +kernel), List.mem_of_getElem? (i := 833) (by decide +kernel), List.mem_of_getElem? (i := 834) (by decide +kernel)⟩
theorem lw_p60 : lw_okq (⟨"TripleSignsModel", "begins", "(I)V"⟩, 24) := ⟨⟨by decide +kernel, by decide +kernel⟩, List.mem_of_getElem? (i := 846) (by decide +kernel), List.mem_of_getElem? (i := 852) (by decide +kernel), List.mem_of_getElem? (i := 853) (by decide +kernel)⟩
theorem lw_p61 : lw_okq (⟨"TripleSignsModel", "clears", "(I)V"⟩, 24) := ⟨⟨by decide +kernel, by decide +kernel⟩, List.mem_of_getElem? (i := 846) (by decide +kernel), List.mem_of_getElem? (i := 856) (by decide +kernel), List.mem_of_getElem? (i := 857) (by decide +kernel)⟩
theorem lw_p62 : lw_okq (⟨"TripleSignsModel", "puts", "(III)V"⟩, 24) := ⟨⟨by decide +kernel, by decide +kernel⟩, List.mem_of_getElem? (i := 846) (by decide +kernel), List.mem_of_getElem? (i := 860) (by decide +kernel), List.mem_of_getElem? (i := 861) (by decide +kernel)⟩
theorem lw_p63 : lw_okq (⟨"TripleSignsModel", "lays", "()V"⟩, 24) := ⟨⟨by decide +kernel, by decide +kernel⟩, List.mem_of_getElem? (i := 846) (by decide +kernel), List.mem_of_getElem? (i := 864) (by decide +kernel), List.mem_of_getElem? (i := 865) (by decide +kernel)⟩
def lw_privs_4 : List (MethodName × Nat) := [(⟨"TripleSigns", "requirePoint", "(I)V"⟩, 12), (⟨"TripleSigns", "borders", "(II)Z"⟩, 12), (⟨"TripleSigns", "orderedSign", "(III)I"⟩, 12), (⟨"TripleSigns$Layout", "hasCorner", "(II)Z"⟩, 10), (⟨"TripleSigns", "exchangeSigns", "(II)V"⟩, 12), (⟨"TripleSigns", "exchangeCoordinates", "(II)V"⟩, 12), (⟨"TripleSigns$Layout", "isViolatedWith", "(I[I)Z"⟩, 10), (⟨"TripleSigns", "lineMask", "(II)I"⟩, 12), (⟨"TripleSigns", "isListed", "(II)Z"⟩, 12), (⟨"TripleSigns", "tryPlacement", "(JI)J"⟩, 12), (⟨"TripleSigns", "copyPoints", "([I[I[I[I)V"⟩, 12), (⟨"TripleSigns", "writtenIn", "(ILjava/lang/String;I)I"⟩, 12), (⟨"TripleSignsModel", "begins", "(I)V"⟩, 24), (⟨"TripleSignsModel", "clears", "(I)V"⟩, 24), (⟨"TripleSignsModel", "puts", "(III)V"⟩, 24), (⟨"TripleSignsModel", "lays", "()V"⟩, 24)]
theorem lw_r4 : ∀ q ∈ lw_privs_4, lw_okq q := List.forall_mem_cons.mpr ⟨lw_p48, List.forall_mem_cons.mpr ⟨lw_p49, List.forall_mem_cons.mpr ⟨lw_p50, List.forall_mem_cons.mpr ⟨lw_p51, List.forall_mem_cons.mpr ⟨lw_p52, List.forall_mem_cons.mpr ⟨lw_p53, List.forall_mem_cons.mpr ⟨lw_p54, List.forall_mem_cons.mpr ⟨lw_p55, List.forall_mem_cons.mpr ⟨lw_p56, List.forall_mem_cons.mpr ⟨lw_p57, List.forall_mem_cons.mpr ⟨lw_p58, List.forall_mem_cons.mpr ⟨lw_p59, List.forall_mem_cons.mpr ⟨lw_p60, List.forall_mem_cons.mpr ⟨lw_p61, List.forall_mem_cons.mpr ⟨lw_p62, List.forall_mem_cons.mpr ⟨lw_p63, fun _ h => absurd h List.not_mem_nil⟩⟩⟩⟩⟩⟩⟩⟩⟩⟩⟩⟩⟩⟩⟩⟩
theorem lw_p64 : lw_okq (⟨"TripleSignsModel", "laysFrom", "(II)V"⟩, 24) := ⟨⟨by decide +kernel, by decide +kernel⟩, List.mem_of_getElem? (i := 846) (by decide +kernel), List.mem_of_getElem? (i := 868) (by decide +kernel), List.mem_of_getElem? (i := 869) (by decide +kernel)⟩
theorem lw_p65 : lw_okq (⟨"TripleSignsModel", "fails", "(I)I"⟩, 24) := ⟨⟨by decide +kernel, by decide +kernel⟩, List.mem_of_getElem? (i := 846) (by decide +kernel), List.mem_of_getElem? (i := 956) (by decide +kernel), List.mem_of_getElem? (i := 957) (by decide +kernel)⟩
theorem lw_p66 : lw_okq (⟨"TripleSignsModel", "hold", "()V"⟩, 24) := ⟨⟨by decide +kernel, by decide +kernel⟩, List.mem_of_getElem? (i := 846) (by decide +kernel), List.mem_of_getElem? (i := 960) (by decide +kernel), List.mem_of_getElem? (i := 961) (by decide +kernel)⟩
theorem lw_p67 : lw_okq (⟨"TripleSignsModel", "ends", "(I)I"⟩, 24) := ⟨⟨by decide +kernel, by decide +kernel⟩, List.mem_of_getElem? (i := 846) (by decide +kernel), List.mem_of_getElem? (i := 964) (by decide +kernel), List.mem_of_getElem? (i := 965) (by decide +kernel)⟩
theorem lw_p68 : lw_okq (⟨"TripleSignsModel", "tells", "(I)I"⟩, 24) := ⟨⟨by decide +kernel, by decide +kernel⟩, List.mem_of_getElem? (i := 846) (by decide +kernel), List.mem_of_getElem? (i := 968) (by decide +kernel), List.mem_of_getElem? (i := 969) (by decide +kernel)⟩
theorem lw_p69 : lw_okq (⟨"TripleSignsModel", "givesTo", "(IIII)I"⟩, 24) := ⟨⟨by decide +kernel, by decide +kernel⟩, List.mem_of_getElem? (i := 846) (by decide +kernel), List.mem_of_getElem? (i := 976) (by decide +kernel), List.mem_of_getElem? (i := 977) (by decide +kernel)⟩
theorem lw_p70 : lw_okq (⟨"TripleSignsModel", "arePoints", "(III)Z"⟩, 24) := ⟨⟨by decide +kernel, by decide +kernel⟩, List.mem_of_getElem? (i := 846) (by decide +kernel), List.mem_of_getElem? (i := 980) (by decide +kernel), List.mem_of_getElem? (i := 981) (by decide +kernel)⟩
theorem lw_p71 : lw_okq (⟨"TripleSignsModel", "isPoint", "(I)Z"⟩, 24) := ⟨⟨by decide +kernel, by decide +kernel⟩, List.mem_of_getElem? (i := 846) (by decide +kernel), List.mem_of_getElem? (i := 984) (by decide +kernel), List.mem_of_getElem? (i := 985) (by decide +kernel)⟩
theorem lw_p72 : lw_okq (⟨"TripleSignsModel", "signOf", "(III)I"⟩, 24) := ⟨⟨by decide +kernel, by decide +kernel⟩, List.mem_of_getElem? (i := 846) (by decide +kernel), List.mem_of_getElem? (i := 991) (by decide +kernel), List.mem_of_getElem? (i := 992) (by decide +kernel)⟩
theorem lw_p73 : lw_okq (⟨"TripleSignsModel", "tripleOf", "(III)I"⟩, 24) := ⟨⟨by decide +kernel, by decide +kernel⟩, List.mem_of_getElem? (i := 846) (by decide +kernel), List.mem_of_getElem? (i := 995) (by decide +kernel), List.mem_of_getElem? (i := 996) (by decide +kernel)⟩
theorem lw_p74 : lw_okq (⟨"TripleSignsModel", "get", "(II)I"⟩, 24) := ⟨⟨by decide +kernel, by decide +kernel⟩, List.mem_of_getElem? (i := 846) (by decide +kernel), List.mem_of_getElem? (i := 999) (by decide +kernel), List.mem_of_getElem? (i := 1000) (by decide +kernel)⟩
theorem lw_p75 : lw_okq (⟨"TripleSignsModel", "gives", "(II)V"⟩, 24) := ⟨⟨by decide +kernel, by decide +kernel⟩, List.mem_of_getElem? (i := 846) (by decide +kernel), List.mem_of_getElem? (i := 1006) (by decide +kernel), List.mem_of_getElem? (i := 1007) (by decide +kernel)⟩
theorem lw_p76 : lw_okq (⟨"TripleSignsModel", "forgets", "()I"⟩, 24) := ⟨⟨by decide +kernel, by decide +kernel⟩, List.mem_of_getElem? (i := 846) (by decide +kernel), List.mem_of_getElem? (i := 1010) (by decide +kernel), List.mem_of_getElem? (i := 1011) (by decide +kernel)⟩
theorem lw_p77 : lw_okq (⟨"TripleSignsModel", "done", "(I)I"⟩, 24) := ⟨⟨by decide +kernel, by decide +kernel⟩, List.mem_of_getElem? (i := 846) (by decide +kernel), List.mem_of_getElem? (i := 1014) (by decide +kernel), List.mem_of_getElem? (i := 1015) (by decide +kernel)⟩
theorem lw_p78 : lw_okq (⟨"TripleSignsModel", "drops", "(III)I"⟩, 24) := ⟨⟨by decide +kernel, by decide +kernel⟩, List.mem_of_getElem? (i := 846) (by decide +kernel), List.mem_of_getElem? (i := 1022) (by decide +kernel), List.mem_of_getElem? (i := 1023) (by decide +kernel)⟩
theorem lw_p79 : lw_okq (⟨"TripleSignsModel", "derives", "()I"⟩, 24) := ⟨⟨by decide +kernel, by decide +kernel⟩, List.mem_of_getElem? (i := 846) (by decide +kernel), List.mem_of_getElem? (i := 1034) (by decide +kernel), List.mem_of_getElem? (i := 1035) (by decide +kernel)⟩
def lw_privs_5 : List (MethodName × Nat) := [(⟨"TripleSignsModel", "laysFrom", "(II)V"⟩, 24), (⟨"TripleSignsModel", "fails", "(I)I"⟩, 24), (⟨"TripleSignsModel", "hold", "()V"⟩, 24), (⟨"TripleSignsModel", "ends", "(I)I"⟩, 24), (⟨"TripleSignsModel", "tells", "(I)I"⟩, 24), (⟨"TripleSignsModel", "givesTo", "(IIII)I"⟩, 24), (⟨"TripleSignsModel", "arePoints", "(III)Z"⟩, 24), (⟨"TripleSignsModel", "isPoint", "(I)Z"⟩, 24), (⟨"TripleSignsModel", "signOf", "(III)I"⟩, 24), (⟨"TripleSignsModel", "tripleOf", "(III)I"⟩, 24), (⟨"TripleSignsModel", "get", "(II)I"⟩, 24), (⟨"TripleSignsModel", "gives", "(II)V"⟩, 24), (⟨"TripleSignsModel", "forgets", "()I"⟩, 24), (⟨"TripleSignsModel", "done", "(I)I"⟩, 24), (⟨"TripleSignsModel", "drops", "(III)I"⟩, 24), (⟨"TripleSignsModel", "derives", "()I"⟩, 24)]
theorem lw_r5 : ∀ q ∈ lw_privs_5, lw_okq q := List.forall_mem_cons.mpr ⟨lw_p64, List.forall_mem_cons.mpr ⟨lw_p65, List.forall_mem_cons.mpr ⟨lw_p66, List.forall_mem_cons.mpr ⟨lw_p67, List.forall_mem_cons.mpr ⟨lw_p68, List.forall_mem_cons.mpr ⟨lw_p69, List.forall_mem_cons.mpr ⟨lw_p70, List.forall_mem_cons.mpr ⟨lw_p71, List.forall_mem_cons.mpr ⟨lw_p72, List.forall_mem_cons.mpr ⟨lw_p73, List.forall_mem_cons.mpr ⟨lw_p74, List.forall_mem_cons.mpr ⟨lw_p75, List.forall_mem_cons.mpr ⟨lw_p76, List.forall_mem_cons.mpr ⟨lw_p77, List.forall_mem_cons.mpr ⟨lw_p78, List.forall_mem_cons.mpr ⟨lw_p79, fun _ h => absurd h List.not_mem_nil⟩⟩⟩⟩⟩⟩⟩⟩⟩⟩⟩⟩⟩⟩⟩⟩
theorem lw_p80 : lw_okq (⟨"TripleSignsModel", "many", "(I)I"⟩, 24) := ⟨⟨by decide +kernel, by decide +kernel⟩, List.mem_of_getElem? (i := 846) (by decide +kernel), List.mem_of_getElem? (i := 1038) (by decide +kernel), List.mem_of_getElem? (i := 1039) (by decide +kernel)⟩
theorem lw_p81 : lw_okq (⟨"TripleSignsModel", "tries", "(I)I"⟩, 24) := ⟨⟨by decide +kernel, by decide +kernel⟩, List.mem_of_getElem? (i := 846) (by decide +kernel), List.mem_of_getElem? (i := 1042) (by decide +kernel), List.mem_of_getElem? (i := 1043) (by decide +kernel)⟩
theorem lw_p82 : lw_okq (⟨"TripleSignsModel", "looksAt", "(I)V"⟩, 24) := ⟨⟨by decide +kernel, by decide +kernel⟩, List.mem_of_getElem? (i := 846) (by decide +kernel), List.mem_of_getElem? (i := 1046) (by decide +kernel), List.mem_of_getElem? (i := 1047) (by decide +kernel)⟩
theorem lw_p83 : lw_okq (⟨"TripleSignsModel", "looks", "(IIII)V"⟩, 24) := ⟨⟨by decide +kernel, by decide +kernel⟩, List.mem_of_getElem? (i := 846) (by decide +kernel), List.mem_of_getElem? (i := 1050) (by decide +kernel), List.mem_of_getElem? (i := 1051) (by decide +kernel)⟩
theorem lw_p84 : lw_okq (⟨"TripleSignsModel", "unknowns", "()I"⟩, 24) := ⟨⟨by decide +kernel, by decide +kernel⟩, List.mem_of_getElem? (i := 846) (by decide +kernel), List.mem_of_getElem? (i := 1054) (by decide +kernel), List.mem_of_getElem? (i := 1055) (by decide +kernel)⟩
theorem lw_p85 : lw_okq (⟨"TripleSignsModel", "isFulfilled", "(I)Z"⟩, 24) := ⟨⟨by decide +kernel, by decide +kernel⟩, List.mem_of_getElem? (i := 846) (by decide +kernel), List.mem_of_getElem? (i := 1058) (by decide +kernel), List.mem_of_getElem? (i := 1059) (by decide +kernel)⟩
theorem lw_p86 : lw_okq (⟨"TripleSignsModel", "flips", "(I)I"⟩, 24) := ⟨⟨by decide +kernel, by decide +kernel⟩, List.mem_of_getElem? (i := 846) (by decide +kernel), List.mem_of_getElem? (i := 1070) (by decide +kernel), List.mem_of_getElem? (i := 1071) (by decide +kernel)⟩
theorem lw_p87 : lw_okq (⟨"TripleSignsModel", "isTriple", "(I)Z"⟩, 24) := ⟨⟨by decide +kernel, by decide +kernel⟩, List.mem_of_getElem? (i := 846) (by decide +kernel), List.mem_of_getElem? (i := 1093) (by decide +kernel), List.mem_of_getElem? (i := 1094) (by decide +kernel)⟩
theorem lw_p88 : lw_okq (⟨"TripleSignsModel", "value", "(II)I"⟩, 24) := ⟨⟨by decide +kernel, by decide +kernel⟩, List.mem_of_getElem? (i := 846) (by decide +kernel), List.mem_of_getElem? (i := 1097) (by decide +kernel), List.mem_of_getElem? (i := 1098) (by decide +kernel)⟩
theorem lw_p89 : lw_okq (⟨"TripleSignsModel", "laysReasons", "()V"⟩, 24) := ⟨⟨by decide +kernel, by decide +kernel⟩, List.mem_of_getElem? (i := 846) (by decide +kernel), List.mem_of_getElem? (i := 1105) (by decide +kernel), List.mem_of_getElem? (i := 1106) (by decide +kernel)⟩
theorem lw_p90 : lw_okq (⟨"TripleSignsModel", "whyRelation", "(I)J"⟩, 24) := ⟨⟨by decide +kernel, by decide +kernel⟩, List.mem_of_getElem? (i := 846) (by decide +kernel), List.mem_of_getElem? (i := 1109) (by decide +kernel), List.mem_of_getElem? (i := 1110) (by decide +kernel)⟩
theorem lw_p91 : lw_okq (⟨"TripleSignsModel", "counted", "(I)I"⟩, 24) := ⟨⟨by decide +kernel, by decide +kernel⟩, List.mem_of_getElem? (i := 846) (by decide +kernel), List.mem_of_getElem? (i := 1117) (by decide +kernel), List.mem_of_getElem? (i := 1118) (by decide +kernel)⟩
theorem lw_p92 : lw_okq (⟨"TripleSignsModel", "stated", "(Z)I"⟩, 24) := ⟨⟨by decide +kernel, by decide +kernel⟩, List.mem_of_getElem? (i := 846) (by decide +kernel), List.mem_of_getElem? (i := 1121) (by decide +kernel), List.mem_of_getElem? (i := 1122) (by decide +kernel)⟩
theorem lw_p93 : lw_okq (⟨"TripleSignsModel", "state", "(I)I"⟩, 24) := ⟨⟨by decide +kernel, by decide +kernel⟩, List.mem_of_getElem? (i := 846) (by decide +kernel), List.mem_of_getElem? (i := 1125) (by decide +kernel), List.mem_of_getElem? (i := 1126) (by decide +kernel)⟩
theorem lw_p94 : lw_okq (⟨"TripleSignsModel", "isRelation", "(I)Z"⟩, 24) := ⟨⟨by decide +kernel, by decide +kernel⟩, List.mem_of_getElem? (i := 846) (by decide +kernel), List.mem_of_getElem? (i := 1133) (by decide +kernel), List.mem_of_getElem? (i := 1134) (by decide +kernel)⟩
theorem lw_p95 : lw_okq (⟨"TripleSignsModel", "relationValue", "(II)I"⟩, 24) := ⟨⟨by decide +kernel, by decide +kernel⟩, List.mem_of_getElem? (i := 846) (by decide +kernel), List.mem_of_getElem? (i := 1137) (by decide +kernel), List.mem_of_getElem? (i := 1138) (by decide +kernel)⟩
def lw_privs_6 : List (MethodName × Nat) := [(⟨"TripleSignsModel", "many", "(I)I"⟩, 24), (⟨"TripleSignsModel", "tries", "(I)I"⟩, 24), (⟨"TripleSignsModel", "looksAt", "(I)V"⟩, 24), (⟨"TripleSignsModel", "looks", "(IIII)V"⟩, 24), (⟨"TripleSignsModel", "unknowns", "()I"⟩, 24), (⟨"TripleSignsModel", "isFulfilled", "(I)Z"⟩, 24), (⟨"TripleSignsModel", "flips", "(I)I"⟩, 24), (⟨"TripleSignsModel", "isTriple", "(I)Z"⟩, 24), (⟨"TripleSignsModel", "value", "(II)I"⟩, 24), (⟨"TripleSignsModel", "laysReasons", "()V"⟩, 24), (⟨"TripleSignsModel", "whyRelation", "(I)J"⟩, 24), (⟨"TripleSignsModel", "counted", "(I)I"⟩, 24), (⟨"TripleSignsModel", "stated", "(Z)I"⟩, 24), (⟨"TripleSignsModel", "state", "(I)I"⟩, 24), (⟨"TripleSignsModel", "isRelation", "(I)Z"⟩, 24), (⟨"TripleSignsModel", "relationValue", "(II)I"⟩, 24)]
theorem lw_r6 : ∀ q ∈ lw_privs_6, lw_okq q := List.forall_mem_cons.mpr ⟨lw_p80, List.forall_mem_cons.mpr ⟨lw_p81, List.forall_mem_cons.mpr ⟨lw_p82, List.forall_mem_cons.mpr ⟨lw_p83, List.forall_mem_cons.mpr ⟨lw_p84, List.forall_mem_cons.mpr ⟨lw_p85, List.forall_mem_cons.mpr ⟨lw_p86, List.forall_mem_cons.mpr ⟨lw_p87, List.forall_mem_cons.mpr ⟨lw_p88, List.forall_mem_cons.mpr ⟨lw_p89, List.forall_mem_cons.mpr ⟨lw_p90, List.forall_mem_cons.mpr ⟨lw_p91, List.forall_mem_cons.mpr ⟨lw_p92, List.forall_mem_cons.mpr ⟨lw_p93, List.forall_mem_cons.mpr ⟨lw_p94, List.forall_mem_cons.mpr ⟨lw_p95, fun _ h => absurd h List.not_mem_nil⟩⟩⟩⟩⟩⟩⟩⟩⟩⟩⟩⟩⟩⟩⟩⟩
theorem lw_p96 : lw_okq (⟨"TripleSignsModel", "extreme", "(I)Z"⟩, 24) := ⟨⟨by decide +kernel, by decide +kernel⟩, List.mem_of_getElem? (i := 846) (by decide +kernel), List.mem_of_getElem? (i := 1157) (by decide +kernel), List.mem_of_getElem? (i := 1158) (by decide +kernel)⟩
theorem lw_p97 : lw_okq (⟨"TripleSignsModel", "lineOf", "(II)I"⟩, 24) := ⟨⟨by decide +kernel, by decide +kernel⟩, List.mem_of_getElem? (i := 846) (by decide +kernel), List.mem_of_getElem? (i := 1165) (by decide +kernel), List.mem_of_getElem? (i := 1166) (by decide +kernel)⟩
theorem lw_p98 : lw_okq (⟨"TripleSignsModel", "isPlaced", "(I)Z"⟩, 24) := ⟨⟨by decide +kernel, by decide +kernel⟩, List.mem_of_getElem? (i := 846) (by decide +kernel), List.mem_of_getElem? (i := 1173) (by decide +kernel), List.mem_of_getElem? (i := 1174) (by decide +kernel)⟩
theorem lw_p99 : lw_okq (⟨"TripleSignsModel", "isSeen", "(I)Z"⟩, 24) := ⟨⟨by decide +kernel, by decide +kernel⟩, List.mem_of_getElem? (i := 846) (by decide +kernel), List.mem_of_getElem? (i := 1185) (by decide +kernel), List.mem_of_getElem? (i := 1186) (by decide +kernel)⟩
theorem lw_p100 : lw_okq (⟨"TripleSignsModel", "signSeen", "(I)I"⟩, 24) := ⟨⟨by decide +kernel, by decide +kernel⟩, List.mem_of_getElem? (i := 846) (by decide +kernel), List.mem_of_getElem? (i := 1189) (by decide +kernel), List.mem_of_getElem? (i := 1190) (by decide +kernel)⟩
theorem lw_p101 : lw_okq (⟨"TripleSignsModel", "apart", "(III)I"⟩, 24) := ⟨⟨by decide +kernel, by decide +kernel⟩, List.mem_of_getElem? (i := 846) (by decide +kernel), List.mem_of_getElem? (i := 1193) (by decide +kernel), List.mem_of_getElem? (i := 1194) (by decide +kernel)⟩
theorem lw_p102 : lw_okq (⟨"TripleSignsModel", "wrong", "()I"⟩, 24) := ⟨⟨by decide +kernel, by decide +kernel⟩, List.mem_of_getElem? (i := 846) (by decide +kernel), List.mem_of_getElem? (i := 1201) (by decide +kernel), List.mem_of_getElem? (i := 1202) (by decide +kernel)⟩
theorem lw_p103 : lw_okq (⟨"TripleSignsModel", "skips", "()Z"⟩, 24) := ⟨⟨by decide +kernel, by decide +kernel⟩, List.mem_of_getElem? (i := 846) (by decide +kernel), List.mem_of_getElem? (i := 1227) (by decide +kernel), List.mem_of_getElem? (i := 1228) (by decide +kernel)⟩
theorem lw_p104 : lw_okq (⟨"TripleSignsModel", "isAt", "(II)Z"⟩, 24) := ⟨⟨by decide +kernel, by decide +kernel⟩, List.mem_of_getElem? (i := 846) (by decide +kernel), List.mem_of_getElem? (i := 1231) (by decide +kernel), List.mem_of_getElem? (i := 1232) (by decide +kernel)⟩
theorem lw_p105 : lw_okq (⟨"TripleSignsModel", "isCommand", "()Z"⟩, 24) := ⟨⟨by decide +kernel, by decide +kernel⟩, List.mem_of_getElem? (i := 846) (by decide +kernel), List.mem_of_getElem? (i := 1235) (by decide +kernel), List.mem_of_getElem? (i := 1236) (by decide +kernel)⟩
theorem lw_p106 : lw_okq (⟨"TripleSignsModel", "areNames", "()Z"⟩, 24) := ⟨⟨by decide +kernel, by decide +kernel⟩, List.mem_of_getElem? (i := 846) (by decide +kernel), List.mem_of_getElem? (i := 1248) (by decide +kernel), List.mem_of_getElem? (i := 1249) (by decide +kernel)⟩
theorem lw_p107 : lw_okq (⟨"TripleSignsModel", "does", "()I"⟩, 24) := ⟨⟨by decide +kernel, by decide +kernel⟩, List.mem_of_getElem? (i := 846) (by decide +kernel), List.mem_of_getElem? (i := 1252) (by decide +kernel), List.mem_of_getElem? (i := 1253) (by decide +kernel)⟩
theorem lw_p108 : lw_okq (⟨"TripleSignsModel", "mix", "(J)V"⟩, 24) := ⟨⟨by decide +kernel, by decide +kernel⟩, List.mem_of_getElem? (i := 846) (by decide +kernel), List.mem_of_getElem? (i := 1276) (by decide +kernel), List.mem_of_getElem? (i := 1277) (by decide +kernel)⟩
def lw_privs_7 : List (MethodName × Nat) := [(⟨"TripleSignsModel", "extreme", "(I)Z"⟩, 24), (⟨"TripleSignsModel", "lineOf", "(II)I"⟩, 24), (⟨"TripleSignsModel", "isPlaced", "(I)Z"⟩, 24), (⟨"TripleSignsModel", "isSeen", "(I)Z"⟩, 24), (⟨"TripleSignsModel", "signSeen", "(I)I"⟩, 24), (⟨"TripleSignsModel", "apart", "(III)I"⟩, 24), (⟨"TripleSignsModel", "wrong", "()I"⟩, 24), (⟨"TripleSignsModel", "skips", "()Z"⟩, 24), (⟨"TripleSignsModel", "isAt", "(II)Z"⟩, 24), (⟨"TripleSignsModel", "isCommand", "()Z"⟩, 24), (⟨"TripleSignsModel", "areNames", "()Z"⟩, 24), (⟨"TripleSignsModel", "does", "()I"⟩, 24), (⟨"TripleSignsModel", "mix", "(J)V"⟩, 24)]
theorem lw_r7 : ∀ q ∈ lw_privs_7, lw_okq q := List.forall_mem_cons.mpr ⟨lw_p96, List.forall_mem_cons.mpr ⟨lw_p97, List.forall_mem_cons.mpr ⟨lw_p98, List.forall_mem_cons.mpr ⟨lw_p99, List.forall_mem_cons.mpr ⟨lw_p100, List.forall_mem_cons.mpr ⟨lw_p101, List.forall_mem_cons.mpr ⟨lw_p102, List.forall_mem_cons.mpr ⟨lw_p103, List.forall_mem_cons.mpr ⟨lw_p104, List.forall_mem_cons.mpr ⟨lw_p105, List.forall_mem_cons.mpr ⟨lw_p106, List.forall_mem_cons.mpr ⟨lw_p107, List.forall_mem_cons.mpr ⟨lw_p108, fun _ h => absurd h List.not_mem_nil⟩⟩⟩⟩⟩⟩⟩⟩⟩⟩⟩⟩⟩
def lw_privs : List (MethodName × Nat) := lw_privs_1 ++ (lw_privs_2 ++ (lw_privs_3 ++ (lw_privs_4 ++ (lw_privs_5 ++ (lw_privs_6 ++ (lw_privs_7))))))
def lw_tbl : List Cond := k2_sels lw_privs ++ tables_1
theorem lw_privs_ok : ∀ q ∈ lw_privs, lw_okq q := by
  show ∀ q ∈ lw_privs_1 ++ (lw_privs_2 ++ (lw_privs_3 ++ (lw_privs_4 ++ (lw_privs_5 ++ (lw_privs_6 ++ (lw_privs_7)))))), lw_okq q
  exact List.forall_mem_append.mpr ⟨lw_r1, List.forall_mem_append.mpr ⟨lw_r2, List.forall_mem_append.mpr ⟨lw_r3, List.forall_mem_append.mpr ⟨lw_r4, List.forall_mem_append.mpr ⟨lw_r5, List.forall_mem_append.mpr ⟨lw_r6, lw_r7⟩⟩⟩⟩⟩⟩
/-! ===== BEGIN words of one list among another's, by their places ===== -/
theorem goodIn_r {big : List Cond} (ws : List Cond) (ps : List Nat) (hp : ws = ps.filterMap (fun i => big[i]?)) (h : ws.all goodWord = true) : GoodIn big ws := by
  intro w hw
  have h1 := List.all_eq_true.mp h w hw
  rw [hp] at hw
  obtain ⟨i, -, hi⟩ := List.mem_filterMap.mp hw
  have hm : w ∈ big := by first | exact List.mem_of_getElem? hi | exact List.getElem?_mem hi
  exact ⟨hm, good_of_word h1⟩
theorem goodIn_app {big a b : List Cond} (ha : GoodIn big a) (hb : GoodIn big b) : GoodIn big (a ++ b) := fun w h => (List.mem_append.mp h).elim (ha w) (hb w)
theorem goodIn_ca {big a b : List Cond} {c : Cond} (ha : GoodIn big (c :: a)) (hb : GoodIn big b) : GoodIn big (c :: (a ++ b)) := fun w h => (List.mem_cons.mp h).elim (fun e => ha w (List.mem_cons.mpr (Or.inl e))) (fun h => (List.mem_append.mp h).elim (fun h => ha w (List.mem_cons.mpr (Or.inr h))) (hb w))
theorem goodIn_sub {big ws : List Cond} (hm : ∀ w ∈ ws, w ∈ big) (h : ws.all goodWord = true) : GoodIn big ws := fun w hw => ⟨hm w hw, good_of_word (List.all_eq_true.mp h w hw)⟩
/-! ===== END ===== -/

/-! ===== BEGIN exceptions that leave a method, and their catching by the caller (launches without stack traces) ===== -/
section VXA
/-! The laws vx_back, vx_callV, vx_callS, vx_callSW, vx_throw0, vx_throwS follow proofs of the library, with one case more: JvmDerived/Free/Laws.lean (Back.of_free), Shelf42/LK1.lean (callV, callS), Shelf/KitTraced.lean (throwNew0V, throwNewS). -/
/-- where a method has thrown q: the class by its name, the cell, what was written, the world -/
def vx_T (XC : String → State → State → Prop) (st : State) (q : Addr) (t : State) (mc ms : Nat) (free : Addr → Prop) : Prop :=
  ∃ (E : String) (ce : Cell) (L : List Loc), XC E st t ∧ t.heap[q]? = some ce ∧ ce.vm = .none ∧ st.vm.findClass E = some ce.cls ∧ st.WarmedH t.vm ∧ st.sameButNew ({ t with vm := st.vm } : State) L mc ms ∧ ∀ z ∈ L, free z.base
def vx_Q (Qc : Array Value → State → Outcome → State → Prop) (XC : String → State → State → Prop) (mc ms : Nat) (free : Addr → Prop) : Array Value → State → Outcome → State → Prop := fun a st o t =>
  (Qc a st o t ∧ ∃ L, FrameEnd st o t L mc ms ∧ ∀ q ∈ L, free q.base) ∨ ∃ q, o = .threw q ∧ vx_T XC st q t mc ms free
/-- a callee that returns or throws -/
def vx_Met (l : Launch) (y : MethodName) (ws : List Cond) (rm : Room) (Pc : Array Value → State → Prop) (Qc : Array Value → State → Outcome → State → Prop) (XC : String → State → State → Prop) (mc ms : Nat) (free : Addr → Prop) : Prop :=
  MetFree l y (headSpec ws rm) Pc (fun _ _ _ _ _ => True) (vx_Q Qc XC mc ms free)
def vx_Post (XC : String → State → State → Prop) (mc ms : Nat) (free : Addr → Prop) : Pt → Array Value → Addr → Pt → Prop := fun A a q B =>
  ∃ (g : JFrame) (mk : MethodId) (t : State) (L : List Loc) (E : String) (ce : Cell), B.U.heap = t.heap ∧ B.U.vm = t.vm ∧ XC E (A.U.calling g mk a) t ∧ t.heap[q]? = some ce ∧ ce.vm = .none ∧ A.U.vm.findClass E = some ce.cls ∧ B.locs = A.locs ++ L ∧ (∀ z ∈ L, free z.base) ∧ B.cells = A.cells + mc ∧ B.slots = A.slots + ms
def vx_Back (l : Launch) (R : Room) (p : Program) (e : Env) (below : List Frame) (s : State) (sargs : Array Value) (y : MethodName) (len W9 : Nat)
    (Pre : Pt → Array Value → Prop) (Post : Pt → Array Value → Option Value → Pt → Prop) (PostX : Pt → Array Value → Addr → Pt → Prop) : Prop :=
  ∀ (m : MethodId) (meth : Method) (c : Code) (A : Pt) (g : JFrame) (ig : Instr) (mk : MethodId) (a : Array Value),
    Stand p l e R s m sargs below meth c A.U A.locs A.cells A.slots → g.method = m → g.locals.size = c.maxLocals → decode c.code g.pc = .ok (ig, len) →
    2 * g.monitorRoom + (g.stack.map fun v => v.category).sum ≤ W9 → A.U.methodNamed? y = some mk → Pre A a →
    (∃ (v : Option Value) (B : Pt), Stand p l e R s m sargs below meth c B.U B.locs B.cells B.slots ∧ Post A a v B ∧
      Steps p.tables e below (doInvoke e (A.U.setTop g) [] mk a).1 (B.U.setTop { g with pc := g.pc + len, stack := v.toList ++ g.stack })) ∨
    (∃ (q : Addr) (B : Pt), Stand p l e R s m sargs below meth c B.U B.locs B.cells B.slots ∧ PostX A a q B ∧
      Steps p.tables e below (doInvoke e (A.U.setTop g) [] mk a).1 ((B.U.setTop g).pushFrame (.throwing q)))
section Payer
variable {l : Launch} {R : Room} {p : Program} {e : Env} {below : List Frame} {s : State} {sargs : Array Value} {y : MethodName} {len W9 : Nat}
theorem vx_back {ws : List Cond} {rm : Room} {Pc : Array Value → State → Prop} {Qc : Array Value → State → Outcome → State → Prop} {XC : String → State → State → Prop} {mc ms : Nat} {free : Addr → Prop} {bytes : ByteArray} {maxL : Nat} {ret : Option FieldType}
    (hM : vx_Met l y ws rm Pc Qc XC mc ms free) (hblind : FrameBlind Pc) (hrc : rm.cells = mc) (hrs : rm.slots = ms)
    (hframes : rm.frames + 1 ≤ R.frames) (hlocals : W9 + (maxL + 11) + rm.locals ≤ R.locals)
    (hws : ∀ w ∈ ws, ∀ a' U, s.WarmedH U.vm → w.before a' U = true) (hcode : Cond.code y bytes maxL ret ∈ ws) (hinit : ∀ a' U, s.WarmedH U.vm → (Cond.initialized y.cls).before a' U = true) :
    vx_Back l R p e below s sargs y len W9 (PreOf R mc ms Pc) (PostOf Qc mc ms free) (vx_Post XC mc ms free) := by
  intro m meth c A g ig mk a X hg hsize hdg hW hn hp
  have h1 : (headSpec ws rm).pre.before a A.U = true := atoms_intro fun w hw => hws w hw _ _ X.warmed
  have h2 : (Cond.code y bytes maxL ret).before a A.U = true := hws _ hcode _ _ X.warmed
  have h3 : (Cond.initialized y.cls).before a A.U = true := hinit _ _ X.warmed
  have h4 : A.cells + (headSpec ws rm).room.cells ≤ R.cells := by rw [show (headSpec ws rm).room.cells = mc from hrc]; exact hp.1
  have h5 : A.slots + (headSpec ws rm).room.slots ≤ R.slots := by rw [show (headSpec ws rm).room.slots = ms from hrs]; exact hp.2.1
  have hPc : Pc a (A.U.calling g mk a) := hblind _ _ _ _ hp.2.2
  obtain ⟨U, Ls, c0, s0⟩ := A
  dsimp only [Pt.U, Pt.locs, Pt.cells, Pt.slots] at h1 h2 h3 h4 h5 X hn hPc ⊢
  obtain ⟨methY, cY, hmY, hcY, -, hlY, -, -, -, -⟩ := Cond.code_spec hn h2
  obtain ⟨kY, hkY, -⟩ := className_of_methodNamed hn
  have hinitY : kY.init = .initialized := Cond.initialized_spec (findClass_of_methodNamed hn) hkY h3
  have h : At U g.method c below := by rw [hg]; exact X.here
  have hlocals9 : W9 + (maxL + 11) + (headSpec ws rm).room.locals ≤ R.locals := hlocals
  have happ : (headSpec ws rm).appliesLoose y e.platform (U.calling g mk a) = true :=
    Spec.appliesLoose_calling (g := g) h hdg hn hkY hinitY
      (X.room_calling (g := g) (R' := (headSpec ws rm).room) hsize hmY hcY hframes (by rw [hlY]; omega) h4 h5) h1
  obtain ⟨mid, hmid⟩ := h.above
  have hfr : (U.setTop g).frames = (.java g :: mid) ++ below := by rw [State.frames_setTop' g h.top, hmid]; rfl
  obtain ⟨o, s₂, hsteps, -, hend, hq⟩ := Steps.callFree hM p X.admits X.cas X.clock (acts := []) hfr happ hPc trivial
  have hq' : vx_Q Qc XC mc ms free a (U.calling g mk a) o s₂ := hq
  rw [State.frames_setTop' g h.top] at hend
  obtain ⟨g₀, hg0⟩ := Option.isSome_iff_exists.mp h.top
  obtain ⟨r, hr⟩ := State.topJava?_eq_some.mp hg0
  have hr' : (({ U with heap := s₂.heap, slotsUsed := s₂.slotsUsed } : State).setVm s₂.vm).frames = .java g₀ :: r := hr
  rcases hq' with ⟨hqc, L, hfe, hL⟩ | ⟨q, rfl, E, ce, L, hx, hce, hcv, hcl, hW₂, hsm, hL⟩
  · obtain ⟨⟨v, rfl⟩, hW₂, e2, q2, q3, q4, q5, q6⟩ := id hfe
    have e3 : s₂ = ({ (U.calling g mk a).setFrames s₂.frames with heap := s₂.heap, slotsUsed := s₂.slotsUsed } : State).setVm s₂.vm := by
      have : s₂ = ({ s₂ with vm := (U.calling g mk a).vm } : State).setVm s₂.vm := rfl
      rw [e2] at this
      exact this
    obtain ⟨c₂, i₂, len₂, hc₂, hd₂, hf₂⟩ := hend
    have hW' : U.WarmedH s₂.vm := hW₂
    have hcc : c₂ = c := by
      have h1 : s₂.code? g.method = U.code? g.method := by
        rw [State.code?_eq, State.code?_eq, hW'.alike.method?]
      exact Option.some.inj (hc₂.symm.trans (h1.trans h.code))
    subst hcc
    have hlen : len₂ = len := by rw [hdg] at hd₂; cases hd₂; rfl
    subst hlen
    have hs₂ : s₂ = (({ U with heap := s₂.heap, slotsUsed := s₂.slotsUsed } : State).setVm s₂.vm).setTop { g with pc := g.pc + len₂, stack := v.toList ++ g.stack } := by
      refine e3.trans ?_
      rw [hf₂, State.calling_eq h.top, State.setFrames_setFrames, State.setTop_of_frames _ hr', hr]
      rfl
    have hsame : U.sameButNew ({ U with heap := s₂.heap, slotsUsed := s₂.slotsUsed } : State) L mc ms := by
      refine ⟨?_, q2, q3, q4, q5, q6⟩
      obtain ⟨t, ht, -⟩ := State.frames_cons hr
      show ({ U with heap := s₂.heap, slotsUsed := s₂.slotsUsed } : State) = { U.setFrames U.frames with heap := s₂.heap, slotsUsed := s₂.slotsUsed }
      rw [State.setFrames_self ht]
    subst hg
    refine Or.inl ⟨v, ⟨(({ U with heap := s₂.heap, slotsUsed := s₂.slotsUsed } : State).setVm s₂.vm), Ls ++ L, c0 + mc, s0 + ms⟩,
      ⟨X.admits, X.cas, X.clock, X.frames, X.room, X.hears, X.method, X.code, (X.here.setHeapUsed s₂.heap s₂.slotsUsed).setVm hW'.alike, X.tail, State.WarmedH.trans X.warmed hW', X.limits, X.bytes, X.same.trans (hsame.setVm s.vm)⟩,
      ⟨g, mk, s₂, L, rfl, rfl, hqc, rfl, hL, rfl, rfl⟩, ?_⟩
    show Steps p.tables e below _ ((({ U with heap := s₂.heap, slotsUsed := s₂.slotsUsed } : State).setVm s₂.vm).setTop { g with pc := g.pc + len₂, stack := v.toList ++ g.stack })
    rw [← hs₂]
    exact hsteps
  · obtain ⟨e2, q2, q3, q4, q5, q6⟩ := id hsm
    have e3 : s₂ = ({ (U.calling g mk a).setFrames s₂.frames with heap := s₂.heap, slotsUsed := s₂.slotsUsed } : State).setVm s₂.vm := by
      have : s₂ = ({ s₂ with vm := (U.calling g mk a).vm } : State).setVm s₂.vm := rfl
      rw [e2] at this
      exact this
    have hf₂ : s₂.frames = .throwing q :: .java g :: U.frames.tail := hend
    have hW' : U.WarmedH s₂.vm := hW₂
    have hs₂ : s₂ = ((({ U with heap := s₂.heap, slotsUsed := s₂.slotsUsed } : State).setVm s₂.vm).setTop g).pushFrame (.throwing q) := by
      refine e3.trans ?_
      rw [hf₂, State.calling_eq h.top, State.setFrames_setFrames, State.pushFrame, State.frames_setTop _ hr', State.setTop_of_frames _ hr', State.setFrames_setFrames, hr]
      rfl
    have hsame : U.sameButNew ({ U with heap := s₂.heap, slotsUsed := s₂.slotsUsed } : State) L mc ms := by
      refine ⟨?_, q2, q3, q4, q5, q6⟩
      obtain ⟨t, ht, -⟩ := State.frames_cons hr
      show ({ U with heap := s₂.heap, slotsUsed := s₂.slotsUsed } : State) = { U.setFrames U.frames with heap := s₂.heap, slotsUsed := s₂.slotsUsed }
      rw [State.setFrames_self ht]
    subst hg
    refine Or.inr ⟨q, ⟨(({ U with heap := s₂.heap, slotsUsed := s₂.slotsUsed } : State).setVm s₂.vm), Ls ++ L, c0 + mc, s0 + ms⟩,
      ⟨X.admits, X.cas, X.clock, X.frames, X.room, X.hears, X.method, X.code, (X.here.setHeapUsed s₂.heap s₂.slotsUsed).setVm hW'.alike, X.tail, State.WarmedH.trans X.warmed hW', X.limits, X.bytes, X.same.trans (hsame.setVm s.vm)⟩,
      ⟨g, mk, s₂, L, E, ce, rfl, rfl, hx, hce, hcv, hcl, rfl, hL, rfl, rfl⟩, ?_⟩
    show Steps p.tables e below _ (((({ U with heap := s₂.heap, slotsUsed := s₂.slotsUsed } : State).setVm s₂.vm).setTop g).pushFrame (.throwing q))
    rw [← hs₂]
    exact hsteps
end Payer
section Calls
variable {p : Program} {l : Launch} {e : Env} {R : Room} {s : State} {m : MethodId} {args : Array Value} {below : List Frame} {meth : Method} {c : Code} {T : State} {locs : List Loc} {cells slots : Nat}
theorem vx_callV (X : Stand p l e R s m args below meth c T locs cells slots) (hexec : p.tables.exec = Jvm.exec) {own C : String} {index : Nat} {y : MethodName} {bytes : ByteArray} {maxL : Nat} {ret : Option FieldType}
    (hown : s.vm.findClass own = some m.cls) (hlink : (Cond.methodLink own index y).before args s = true) (hinst : (Cond.instanceMethod y).before args s = true) (hsel : (Cond.selects C y y).before args s = true)
    (hcode : (Cond.code y bytes maxL ret).before args s = true) (hy : y.cls ≠ "java/lang/invoke/MethodHandle" ∧ y.cls ≠ "java/lang/invoke/VarHandle")
    {W9 : Nat} {Pre : Pt → Array Value → Prop} {Post : Pt → Array Value → Option Value → Pt → Prop} {PostX : Pt → Array Value → Addr → Pt → Prop} (hK : vx_Back l R p e below s args y 3 W9 Pre Post PostX)
    {b : Addr} {cellB : Cell} (hcell : T.heap[b]? = some cellB) (hobj : cellB.vm.isStatics = false) (hcls : s.vm.findClass C = some cellB.cls)
    {g : JFrame} (hg : g.method = m) (hsize : g.locals.size = c.maxLocals) {argsL rest : List Value} (hlen : ∀ sig, parseMethodDescriptor y.desc = some sig → argsL.length = sig.parameters.length)
    (hstack : g.stack = argsL.reverse ++ .ref b :: rest) (hW : 2 * g.monitorRoom + (rest.map fun v => v.category).sum ≤ W9) (hdg : decode c.code g.pc = .ok (.invokevirtual index, 3))
    (hpre : ∀ vm₁, s.WarmedH vm₁ → Pre ⟨T.setVm vm₁, locs, cells, slots⟩ (Value.ref b :: argsL).toArray) :
    (∃ (v : Option Value) (vm₁ : Vm) (B : Pt), s.WarmedH vm₁ ∧ Stand p l e R s m args below meth c B.U B.locs B.cells B.slots ∧ Post ⟨T.setVm vm₁, locs, cells, slots⟩ (Value.ref b :: argsL).toArray v B ∧
      ∀ target, Steps p.tables e below (B.U.setTop { g with pc := g.pc + 3, stack := v.toList ++ rest }) target → Steps p.tables e below (T.setTop g) target) ∨
    (∃ (q : Addr) (vm₁ : Vm) (B : Pt), s.WarmedH vm₁ ∧ Stand p l e R s m args below meth c B.U B.locs B.cells B.slots ∧ PostX ⟨T.setVm vm₁, locs, cells, slots⟩ (Value.ref b :: argsL).toArray q B ∧
      Steps p.tables e below (T.setTop g) ((B.U.setTop { g with stack := rest }).pushFrame (.throwing q))) := by
  obtain ⟨mk, methM, hnamed, hmethM, hstM, habM⟩ := Cond.instanceMethod_spec hinst
  obtain ⟨methM', cM, hmethM', -, -, -, -, -, -, hsigM⟩ := Cond.code_spec hnamed hcode
  cases hmethM.symm.trans hmethM'
  obtain ⟨c2, r2, m2, q1, q2, q3, q4, kP, hkP, hkPi⟩ := Cond.selects_spec hsel
  cases hcls.symm.trans q1
  cases (State.methodFound?_of_named hnamed hy).symm.trans q2
  cases hnamed.symm.trans q3
  have hselP : selectMethod e.platform s.vm cellB.cls mk = .method mk := by rw [Launch.admits_selectMethod X.admits]; exact q4
  obtain ⟨vm₁, X₁, hstep₁⟩ := X.invokevirtual hexec hown hlink hnamed hmethM hstM hkP hkPi hy (a := b) (cell := cellB) hcell
    (fun z h => by rw [h] at hobj; cases hobj) hselP hmethM habM hkP hkPi (g := g) hg (argsL := argsL) (rest := rest) (hlen _ hsigM) hstack hdg
  rcases hK m meth c ⟨T.setVm vm₁, locs, cells, slots⟩ { g with stack := rest } (.invokevirtual index) mk (Value.ref b :: argsL).toArray X₁ hg hsize hdg hW (X₁.named hnamed) (hpre vm₁ X₁.warmed) with ⟨v, B, X', hpost, hsteps⟩ | ⟨q, B, X', hpost, hsteps⟩
  · exact Or.inl ⟨v, vm₁, B, X₁.warmed, X', hpost, fun target h => hstep₁ _ fun acts => by rw [doInvoke_state]; exact hsteps.trans h⟩
  · exact Or.inr ⟨q, vm₁, B, X₁.warmed, X', hpost, hstep₁ _ fun acts => by rw [doInvoke_state]; exact hsteps⟩
theorem vx_callS (X : Stand p l e R s m args below meth c T locs cells slots) (hexec : p.tables.exec = Jvm.exec) {own : String} {index : Nat} {y : MethodName} {bytes : ByteArray} {maxL : Nat} {ret : Option FieldType}
    (hown : s.vm.findClass own = some m.cls) (hlink : (Cond.methodLink own index y).before args s = true) (hstat : (Cond.static y).before args s = true) (hinit : (Cond.initialized y.cls).before args s = true)
    (hcode : (Cond.code y bytes maxL ret).before args s = true) (hy : y.cls ≠ "java/lang/invoke/MethodHandle" ∧ y.cls ≠ "java/lang/invoke/VarHandle")
    {W9 : Nat} {Pre : Pt → Array Value → Prop} {Post : Pt → Array Value → Option Value → Pt → Prop} {PostX : Pt → Array Value → Addr → Pt → Prop} (hK : vx_Back l R p e below s args y 3 W9 Pre Post PostX)
    {g : JFrame} (hg : g.method = m) (hsize : g.locals.size = c.maxLocals) {argsL rest : List Value} (hlen : ∀ sig, parseMethodDescriptor y.desc = some sig → argsL.length = sig.parameters.length)
    (hstack : g.stack = argsL.reverse ++ rest) (hW : 2 * g.monitorRoom + (rest.map fun v => v.category).sum ≤ W9) (hdg : decode c.code g.pc = .ok (.invokestatic index, 3))
    (hpre : ∀ vm₁, s.WarmedH vm₁ → Pre ⟨T.setVm vm₁, locs, cells, slots⟩ argsL.toArray) :
    (∃ (v : Option Value) (vm₁ : Vm) (B : Pt), s.WarmedH vm₁ ∧ Stand p l e R s m args below meth c B.U B.locs B.cells B.slots ∧ Post ⟨T.setVm vm₁, locs, cells, slots⟩ argsL.toArray v B ∧
      ∀ target, Steps p.tables e below (B.U.setTop { g with pc := g.pc + 3, stack := v.toList ++ rest }) target → Steps p.tables e below (T.setTop g) target) ∨
    (∃ (q : Addr) (vm₁ : Vm) (B : Pt), s.WarmedH vm₁ ∧ Stand p l e R s m args below meth c B.U B.locs B.cells B.slots ∧ PostX ⟨T.setVm vm₁, locs, cells, slots⟩ argsL.toArray q B ∧
      Steps p.tables e below (T.setTop g) ((B.U.setTop { g with stack := rest }).pushFrame (.throwing q))) := by
  obtain ⟨mk, hnamed⟩ := Cond.code_named hcode
  obtain ⟨methM, cM, hmethM, -, -, -, -, -, -, hsigM⟩ := Cond.code_spec hnamed hcode
  have hstatic : methM.isStatic = true := Cond.static_spec hnamed hmethM hstat
  obtain ⟨kP, hkP, -⟩ := className_of_methodNamed hnamed
  have hinitP : kP.init = .initialized := Cond.initialized_spec (findClass_of_methodNamed hnamed) hkP hinit
  obtain ⟨vm₁, X₁, hstep₁⟩ := X.invokestatic hexec hown hlink hnamed hmethM hstatic hkP hinitP hy (g := g) hg (argsL := argsL) (rest := rest) (hlen _ hsigM) hstack hdg
  rcases hK m meth c ⟨T.setVm vm₁, locs, cells, slots⟩ { g with stack := rest } (.invokestatic index) mk argsL.toArray X₁ hg hsize hdg hW (X₁.named hnamed) (hpre vm₁ X₁.warmed) with ⟨v, B, X', hpost, hsteps⟩ | ⟨q, B, X', hpost, hsteps⟩
  · exact Or.inl ⟨v, vm₁, B, X₁.warmed, X', hpost, fun target h => hstep₁ _ fun acts => by rw [doInvoke_state]; exact hsteps.trans h⟩
  · exact Or.inr ⟨q, vm₁, B, X₁.warmed, X', hpost, hstep₁ _ fun acts => by rw [doInvoke_state]; exact hsteps⟩
end Calls
theorem vx_cls {s : State} {T : State} {vm₁ : Vm} {E : String} {k : ClassId} (hW : s.WarmedH vm₁) (h : (T.setVm vm₁).vm.findClass E = some k) : s.vm.findClass E = some k := by
  have h1 : vm₁.findClass E = some k := h
  rw [hW.alike.findClass] at h1
  exact h1
/-- the method's frame g, with q thrown over it -/
def vx_W (p : Program) (l : Launch) (e : Env) (R : Room) (s : State) (m : MethodId) (args : Array Value) (below : List Frame) (meth : Method) (c : Code) (H : Heap) (locs : List Loc) (cells slots : Nat) (Q : State → Prop) (g : JFrame) (q : Addr) : Prop :=
  ∀ T : State, T.heap = H → Stand p l e R s m args below meth c T locs cells slots → ∃ t, Steps p.tables e below ((T.setTop g).pushFrame (.throwing q)) t ∧ Q t
def vx_Run (p : Program) (l : Launch) (e : Env) (R : Room) (s : State) (m : MethodId) (args : Array Value) (below : List Frame) (meth : Method) (c : Code) (H : Heap) (locs : List Loc) (cells slots mc ms : Nat) (g : JFrame) (rest : List Value) (Qa : State → Outcome → State → Prop) (XC : String → State → State → Prop) (free : Addr → Prop) : Prop :=
  ∀ T : State, T.heap = H → Stand p l e R s m args below meth c T locs cells slots →
    (∃ (v : Option Value) (st₀ t T' : State) (L : List Loc), st₀.heap = H ∧ Stand p l e R s m args below meth c T' (locs ++ L) (cells + mc) (slots + ms) ∧ (∀ q ∈ L, free q.base) ∧ T'.heap = t.heap ∧ T'.vm = t.vm ∧ Qa st₀ (.returned v) t ∧
      Goes p e below T g T' { g with pc := g.pc + 3, stack := v.toList ++ rest }) ∨
    (∃ (q : Addr) (st₀ t T' : State) (L : List Loc) (E : String) (ce : Cell), st₀.heap = H ∧ Stand p l e R s m args below meth c T' (locs ++ L) (cells + mc) (slots + ms) ∧ (∀ z ∈ L, free z.base) ∧ T'.heap = t.heap ∧ T'.vm = t.vm ∧ XC E st₀ t ∧ t.heap[q]? = some ce ∧ ce.vm = .none ∧ s.vm.findClass E = some ce.cls ∧
      Steps p.tables e below (T.setTop g) ((T'.setTop { g with stack := rest }).pushFrame (.throwing q)))
def vx_X {S : Type} (px : S → Prop) (B : String → S → State → Prop) (A : Nat → Prop) : String → State → State → Prop := fun E st t => ∃ u : S, px u ∧ B E u t ∧ va_F A st t
section Runs
variable {p : Program} {l : Launch} {e : Env} {R : Room} {s : State} {m : MethodId} {args : Array Value} {below : List Frame} {meth : Method} {c : Code} {H : Heap} {locs : List Loc} {cells slots : Nat}
variable {y : MethodName} {bytes cc : ByteArray} {maxL nL mc ms n index : Nat} {ret : Option FieldType} {ws : List Cond} {rm : Room} {Pc : Array Value → State → Prop} {Qc : Array Value → State → Outcome → State → Prop} {XC : String → State → State → Prop} {free : Addr → Prop} {Ts : List Cond} {own C : String} {b : Addr} {As rest : List Value} {g : JFrame}
theorem vx_callBack (cb : CallB R s args own index y bytes maxL ret ws rm mc ms n) (hM : vx_Met l y ws rm Pc Qc XC mc ms free) (hbl : FrameBlind Pc) : vx_Back l R p e below s args y 3 8 (PreOf R mc ms Pc) (PostOf Qc mc ms free) (vx_Post XC mc ms free) := by
  obtain ⟨hrc, hrs, hfr, hlo, hws, hcw, -, hini, -⟩ := cb
  exact vx_back (bytes := bytes) (maxL := maxL) (ret := ret) hM hbl hrc hrs hfr hlo hws hcw (fun a' U hW => word_at hW (Or.inl (by first | rfl | simp [Cond.onTables, Cond.keeps, Cond.steady])) hini)
theorem vx_runV (S : CallFix p m c cc nL s args Ts own) (hM : vx_Met l y ws rm Pc Qc XC mc ms free) (cw : CallW R s args own C index y bytes maxL ret ws rm mc ms n) (hp : PreV s H C b Pc As)
    (hg : g.method = m) (hn : As.length = n) (hsize : g.locals.size = nL) (hstack : g.stack = As.reverse ++ .ref b :: rest) (hW : 2 * g.monitorRoom + (rest.map fun v => v.category).sum ≤ 8) (hdg : decode cc g.pc = .ok (.invokevirtual index, 3)) (hf : cells + mc ≤ R.cells ∧ slots + ms ≤ R.slots) :
    vx_Run p l e R s m args below meth c H locs cells slots mc ms g rest (Qc (Value.ref b :: As).toArray) XC free := by
  have hK : vx_Back l R p e below s args y 3 8 (PreOf R mc ms Pc) (PostOf Qc mc ms free) (vx_Post XC mc ms free) := vx_callBack cw.1 hM hp.1
  obtain ⟨⟨-, -, -, -, -, -, hcode, -, hy, hlen, hl⟩, hin, hse⟩ := cw
  obtain ⟨hx, hb, hml, ho, -⟩ := S
  obtain ⟨-, ⟨cellB, hcB, hoB, hclB⟩, hPc⟩ := hp
  intro T hT X
  rcases vx_callV X hx (C := C) (bytes := bytes) (maxL := maxL) (ret := ret) ho hl hin hse hcode hy hK (by rw [hT]; exact hcB) hoB hclB hg (hsize.trans hml.symm) (argsL := As) (rest := rest) (fun sig h => hn.trans (hlen sig h)) hstack hW (by rw [hb]; exact hdg)
    (fun vm₁ hW₁ => ⟨hf.1, hf.2, hPc (T.setVm vm₁) hT hW₁⟩) with ⟨v, vm₁, ⟨U', l2, c2, s2⟩, hW₁, X', ⟨g', mk, t, L, e1, e2, hq, h1, hL, h2, h3⟩, st⟩ | ⟨q, vm₁, ⟨U', l2, c2, s2⟩, hW₁, X', ⟨g', mk, t, L, E, ce, e1, e2, hq, hce, hcv, hcl, h1, hL, h2, h3⟩, st⟩
  · dsimp only [Pt.U, Pt.locs, Pt.cells, Pt.slots] at X' e1 e2 h1 h2 h3 st
    subst h1; subst h2; subst h3
    exact Or.inl ⟨v, (T.setVm vm₁).calling g' mk (Value.ref b :: As).toArray, t, U', L, hT, X', hL, e1, e2, hq, st⟩
  · dsimp only [Pt.U, Pt.locs, Pt.cells, Pt.slots] at X' e1 e2 h1 h2 h3 st hcl
    subst h1; subst h2; subst h3
    exact Or.inr ⟨q, (T.setVm vm₁).calling g' mk (Value.ref b :: As).toArray, t, U', L, E, ce, hT, X', hL, e1, e2, hq, hce, hcv, vx_cls hW₁ hcl, st⟩
theorem vx_runS (S : CallFix p m c cc nL s args Ts own) (hM : vx_Met l y ws rm Pc Qc XC mc ms free) (cw : CallB R s args own index y bytes maxL ret ws rm mc ms n ∧ (Cond.static y).before args s = true) (hp : PreS s H Pc As)
    (hg : g.method = m) (hn : As.length = n) (hsize : g.locals.size = nL) (hstack : g.stack = As.reverse ++ rest) (hW : 2 * g.monitorRoom + (rest.map fun v => v.category).sum ≤ 8) (hdg : decode cc g.pc = .ok (.invokestatic index, 3)) (hf : cells + mc ≤ R.cells ∧ slots + ms ≤ R.slots) :
    vx_Run p l e R s m args below meth c H locs cells slots mc ms g rest (Qc As.toArray) XC free := by
  have hK : vx_Back l R p e below s args y 3 8 (PreOf R mc ms Pc) (PostOf Qc mc ms free) (vx_Post XC mc ms free) := vx_callBack cw.1 hM hp.1
  obtain ⟨⟨-, -, -, -, -, -, hcode, hini, hy, hlen, hl⟩, hstt⟩ := cw
  obtain ⟨hx, hb, hml, ho, -⟩ := S
  intro T hT X
  rcases vx_callS X hx (bytes := bytes) (maxL := maxL) (ret := ret) ho hl hstt hini hcode hy hK hg (hsize.trans hml.symm) (argsL := As) (rest := rest) (fun sig h => hn.trans (hlen sig h)) hstack hW (by rw [hb]; exact hdg)
    (fun vm₁ hW₁ => ⟨hf.1, hf.2, hp.2 (T.setVm vm₁) hT hW₁⟩) with ⟨v, vm₁, ⟨U', l2, c2, s2⟩, hW₁, X', ⟨g', mk, t, L, e1, e2, hq, h1, hL, h2, h3⟩, st⟩ | ⟨q, vm₁, ⟨U', l2, c2, s2⟩, hW₁, X', ⟨g', mk, t, L, E, ce, e1, e2, hq, hce, hcv, hcl, h1, hL, h2, h3⟩, st⟩
  · dsimp only [Pt.U, Pt.locs, Pt.cells, Pt.slots] at X' e1 e2 h1 h2 h3 st
    subst h1; subst h2; subst h3
    exact Or.inl ⟨v, (T.setVm vm₁).calling g' mk As.toArray, t, U', L, hT, X', hL, e1, e2, hq, st⟩
  · dsimp only [Pt.U, Pt.locs, Pt.cells, Pt.slots] at X' e1 e2 h1 h2 h3 st hcl
    subst h1; subst h2; subst h3
    exact Or.inr ⟨q, (T.setVm vm₁).calling g' mk As.toArray, t, U', L, E, ce, hT, X', hL, e1, e2, hq, hce, hcv, vx_cls hW₁ hcl, st⟩
end Runs
section Rows
variable {p : Program} {l : Launch} {e : Env} {R : Room} {s : State} {m : MethodId} {args : Array Value} {below : List Frame} {meth : Method} {c : Code} {H : Heap} {locs : List Loc} {cells slots : Nat} {Q : State → Prop}
variable {mc ms : Nat} {free : Addr → Prop} {A0 A1 : Nat → Prop} {H0 : Heap} {a : Array Value} {pc : Nat} {ls : Array Slot} {st0 rest : List Value}
theorem vx_keep {st₀ t T' : State} {L : List Loc} (h0 : st₀.heap = H) (e1 : T'.heap = t.heap) (hS : va_S A0 H0 H locs) (hA : ∀ q, q < H.size → A1 q → A0 q) (hf : ∀ q, free q → A0 q) (hL : ∀ q ∈ L, free q.base) (hF : va_F A1 st₀ t) :
    H.size ≤ T'.heap.size ∧ (∀ q : Nat, q < H.size → ¬ A1 q → T'.heap[q]? = H[q]?) ∧ va_S A0 H0 T'.heap (locs ++ L) := by
  obtain ⟨hz, hk⟩ := hF
  rw [h0] at hz hk
  exact ⟨by rw [e1]; exact hz, fun q h1 h2 => by rw [e1]; exact hk q h1 h2,
    ⟨Nat.le_trans hS.1 (by rw [e1]; exact hz), fun q h1 h2 => by rw [e1, hk q (Nat.lt_of_lt_of_le h1 hS.1) (fun z => h2 (hA q (Nat.lt_of_lt_of_le h1 hS.1) z))]; exact hS.2.1 q h1 h2, fun q hq => by
      rcases List.mem_append.mp hq with h | h
      · exact hS.2.2 q h
      · exact hf _ (hL q h)⟩⟩
theorem vx_calli {S SX : Type} {post : Int32 → S → Prop} {px : SX → Prop} {B : S → State → Prop} {BX : String → SX → State → Prop} {AX : Nat → Prop} (hr : vx_Run p l e R s m args below meth c H locs cells slots mc ms (F0 m pc ls st0) rest (va_Qi post B A1 a) (vx_X px BX AX) free) (hS : va_S A0 H0 H locs) (hA : ∀ q, q < H.size → A1 q → A0 q) (hf : ∀ q, free q → A0 q) (hAX : ∀ q, q < H.size → AX q → A0 q)
    (kx : ∀ (E : String) (ce : Cell) (q9 : Addr) (u : SX) (t : State) (H1 : Heap) (locs1 : List Loc), t.heap = H1 → s.vm.Alike t.vm → px u → BX E u t → H.size ≤ H1.size → (∀ q : Nat, q < H.size → ¬ AX q → H1[q]? = H[q]?) → va_S A0 H0 H1 locs1 → H1[q9]? = some ce → ce.vm = .none → s.vm.findClass E = some ce.cls → vx_W p l e R s m args below meth c H1 locs1 (cells + mc) (slots + ms) Q (F0 m pc ls rest) q9)
    (kk : ∀ (r : Int32) (u : S) (t : State) (H1 : Heap) (locs1 : List Loc), t.heap = H1 → s.vm.Alike t.vm → post r u → B u t → H.size ≤ H1.size → (∀ q : Nat, q < H.size → ¬ A1 q → H1[q]? = H[q]?) → va_S A0 H0 H1 locs1 → W p l e R s m args below meth c H1 locs1 (cells + mc) (slots + ms) Q (F0 m (pc + 3) ls (.int r :: rest))) : W p l e R s m args below meth c H locs cells slots Q (F0 m pc ls st0) := by
  intro T hT X
  rcases hr T hT X with ⟨v, st₀, t, T', L, h0, X', hL, e1, e2, ⟨⟨r, u, hv, hp, hb⟩, hF⟩, st⟩ | ⟨q, st₀, t, T', L, E, ce, h0, X', hL, e1, e2, ⟨u, hp, hb, hF⟩, hce, hcv, hcl, st⟩
  · cases hv
    obtain ⟨k1, k2, k3⟩ := vx_keep h0 e1 hS hA hf hL hF
    obtain ⟨t2, a1, b1⟩ := kk r u t T'.heap (locs ++ L) e1.symm (by rw [← e2]; exact X'.warmed.alike) hp hb k1 k2 k3 T' rfl X'
    exact ⟨t2, st t2 a1, b1⟩
  · obtain ⟨k1, k2, k3⟩ := vx_keep h0 e1 hS hAX hf hL hF
    obtain ⟨t2, a1, b1⟩ := kx E ce q u t T'.heap (locs ++ L) e1.symm (by rw [← e2]; exact X'.warmed.alike) hp hb k1 k2 k3 (by rw [e1]; exact hce) hcv hcl T' rfl X'
    exact ⟨t2, st.trans a1, b1⟩
theorem vx_calll {S SX : Type} {post : Int64 → S → Prop} {px : SX → Prop} {B : S → State → Prop} {BX : String → SX → State → Prop} {AX : Nat → Prop} (hr : vx_Run p l e R s m args below meth c H locs cells slots mc ms (F0 m pc ls st0) rest (va_Ql post B A1 a) (vx_X px BX AX) free) (hS : va_S A0 H0 H locs) (hA : ∀ q, q < H.size → A1 q → A0 q) (hf : ∀ q, free q → A0 q) (hAX : ∀ q, q < H.size → AX q → A0 q)
    (kx : ∀ (E : String) (ce : Cell) (q9 : Addr) (u : SX) (t : State) (H1 : Heap) (locs1 : List Loc), t.heap = H1 → s.vm.Alike t.vm → px u → BX E u t → H.size ≤ H1.size → (∀ q : Nat, q < H.size → ¬ AX q → H1[q]? = H[q]?) → va_S A0 H0 H1 locs1 → H1[q9]? = some ce → ce.vm = .none → s.vm.findClass E = some ce.cls → vx_W p l e R s m args below meth c H1 locs1 (cells + mc) (slots + ms) Q (F0 m pc ls rest) q9)
    (kk : ∀ (r : Int64) (u : S) (t : State) (H1 : Heap) (locs1 : List Loc), t.heap = H1 → s.vm.Alike t.vm → post r u → B u t → H.size ≤ H1.size → (∀ q : Nat, q < H.size → ¬ A1 q → H1[q]? = H[q]?) → va_S A0 H0 H1 locs1 → W p l e R s m args below meth c H1 locs1 (cells + mc) (slots + ms) Q (F0 m (pc + 3) ls (.long r :: rest))) : W p l e R s m args below meth c H locs cells slots Q (F0 m pc ls st0) := by
  intro T hT X
  rcases hr T hT X with ⟨v, st₀, t, T', L, h0, X', hL, e1, e2, ⟨⟨r, u, hv, hp, hb⟩, hF⟩, st⟩ | ⟨q, st₀, t, T', L, E, ce, h0, X', hL, e1, e2, ⟨u, hp, hb, hF⟩, hce, hcv, hcl, st⟩
  · cases hv
    obtain ⟨k1, k2, k3⟩ := vx_keep h0 e1 hS hA hf hL hF
    obtain ⟨t2, a1, b1⟩ := kk r u t T'.heap (locs ++ L) e1.symm (by rw [← e2]; exact X'.warmed.alike) hp hb k1 k2 k3 T' rfl X'
    exact ⟨t2, st t2 a1, b1⟩
  · obtain ⟨k1, k2, k3⟩ := vx_keep h0 e1 hS hAX hf hL hF
    obtain ⟨t2, a1, b1⟩ := kx E ce q u t T'.heap (locs ++ L) e1.symm (by rw [← e2]; exact X'.warmed.alike) hp hb k1 k2 k3 (by rw [e1]; exact hce) hcv hcl T' rfl X'
    exact ⟨t2, st.trans a1, b1⟩
theorem vx_callf {S SX : Type} {post : UInt32 → S → Prop} {px : SX → Prop} {B : S → State → Prop} {BX : String → SX → State → Prop} {AX : Nat → Prop} (hr : vx_Run p l e R s m args below meth c H locs cells slots mc ms (F0 m pc ls st0) rest (va_Qf post B A1 a) (vx_X px BX AX) free) (hS : va_S A0 H0 H locs) (hA : ∀ q, q < H.size → A1 q → A0 q) (hf : ∀ q, free q → A0 q) (hAX : ∀ q, q < H.size → AX q → A0 q)
    (kx : ∀ (E : String) (ce : Cell) (q9 : Addr) (u : SX) (t : State) (H1 : Heap) (locs1 : List Loc), t.heap = H1 → s.vm.Alike t.vm → px u → BX E u t → H.size ≤ H1.size → (∀ q : Nat, q < H.size → ¬ AX q → H1[q]? = H[q]?) → va_S A0 H0 H1 locs1 → H1[q9]? = some ce → ce.vm = .none → s.vm.findClass E = some ce.cls → vx_W p l e R s m args below meth c H1 locs1 (cells + mc) (slots + ms) Q (F0 m pc ls rest) q9)
    (kk : ∀ (r : UInt32) (u : S) (t : State) (H1 : Heap) (locs1 : List Loc), t.heap = H1 → s.vm.Alike t.vm → post r u → B u t → H.size ≤ H1.size → (∀ q : Nat, q < H.size → ¬ A1 q → H1[q]? = H[q]?) → va_S A0 H0 H1 locs1 → W p l e R s m args below meth c H1 locs1 (cells + mc) (slots + ms) Q (F0 m (pc + 3) ls (.float r :: rest))) : W p l e R s m args below meth c H locs cells slots Q (F0 m pc ls st0) := by
  intro T hT X
  rcases hr T hT X with ⟨v, st₀, t, T', L, h0, X', hL, e1, e2, ⟨⟨r, u, hv, hp, hb⟩, hF⟩, st⟩ | ⟨q, st₀, t, T', L, E, ce, h0, X', hL, e1, e2, ⟨u, hp, hb, hF⟩, hce, hcv, hcl, st⟩
  · cases hv
    obtain ⟨k1, k2, k3⟩ := vx_keep h0 e1 hS hA hf hL hF
    obtain ⟨t2, a1, b1⟩ := kk r u t T'.heap (locs ++ L) e1.symm (by rw [← e2]; exact X'.warmed.alike) hp hb k1 k2 k3 T' rfl X'
    exact ⟨t2, st t2 a1, b1⟩
  · obtain ⟨k1, k2, k3⟩ := vx_keep h0 e1 hS hAX hf hL hF
    obtain ⟨t2, a1, b1⟩ := kx E ce q u t T'.heap (locs ++ L) e1.symm (by rw [← e2]; exact X'.warmed.alike) hp hb k1 k2 k3 (by rw [e1]; exact hce) hcv hcl T' rfl X'
    exact ⟨t2, st.trans a1, b1⟩
theorem vx_calld {S SX : Type} {post : UInt64 → S → Prop} {px : SX → Prop} {B : S → State → Prop} {BX : String → SX → State → Prop} {AX : Nat → Prop} (hr : vx_Run p l e R s m args below meth c H locs cells slots mc ms (F0 m pc ls st0) rest (va_Qd post B A1 a) (vx_X px BX AX) free) (hS : va_S A0 H0 H locs) (hA : ∀ q, q < H.size → A1 q → A0 q) (hf : ∀ q, free q → A0 q) (hAX : ∀ q, q < H.size → AX q → A0 q)
    (kx : ∀ (E : String) (ce : Cell) (q9 : Addr) (u : SX) (t : State) (H1 : Heap) (locs1 : List Loc), t.heap = H1 → s.vm.Alike t.vm → px u → BX E u t → H.size ≤ H1.size → (∀ q : Nat, q < H.size → ¬ AX q → H1[q]? = H[q]?) → va_S A0 H0 H1 locs1 → H1[q9]? = some ce → ce.vm = .none → s.vm.findClass E = some ce.cls → vx_W p l e R s m args below meth c H1 locs1 (cells + mc) (slots + ms) Q (F0 m pc ls rest) q9)
    (kk : ∀ (r : UInt64) (u : S) (t : State) (H1 : Heap) (locs1 : List Loc), t.heap = H1 → s.vm.Alike t.vm → post r u → B u t → H.size ≤ H1.size → (∀ q : Nat, q < H.size → ¬ A1 q → H1[q]? = H[q]?) → va_S A0 H0 H1 locs1 → W p l e R s m args below meth c H1 locs1 (cells + mc) (slots + ms) Q (F0 m (pc + 3) ls (.double r :: rest))) : W p l e R s m args below meth c H locs cells slots Q (F0 m pc ls st0) := by
  intro T hT X
  rcases hr T hT X with ⟨v, st₀, t, T', L, h0, X', hL, e1, e2, ⟨⟨r, u, hv, hp, hb⟩, hF⟩, st⟩ | ⟨q, st₀, t, T', L, E, ce, h0, X', hL, e1, e2, ⟨u, hp, hb, hF⟩, hce, hcv, hcl, st⟩
  · cases hv
    obtain ⟨k1, k2, k3⟩ := vx_keep h0 e1 hS hA hf hL hF
    obtain ⟨t2, a1, b1⟩ := kk r u t T'.heap (locs ++ L) e1.symm (by rw [← e2]; exact X'.warmed.alike) hp hb k1 k2 k3 T' rfl X'
    exact ⟨t2, st t2 a1, b1⟩
  · obtain ⟨k1, k2, k3⟩ := vx_keep h0 e1 hS hAX hf hL hF
    obtain ⟨t2, a1, b1⟩ := kx E ce q u t T'.heap (locs ++ L) e1.symm (by rw [← e2]; exact X'.warmed.alike) hp hb k1 k2 k3 (by rw [e1]; exact hce) hcv hcl T' rfl X'
    exact ⟨t2, st.trans a1, b1⟩
theorem vx_callv {S SX : Type} {post : S → Prop} {px : SX → Prop} {B : S → State → Prop} {BX : String → SX → State → Prop} {AX : Nat → Prop} (hr : vx_Run p l e R s m args below meth c H locs cells slots mc ms (F0 m pc ls st0) rest (va_Qv post B A1 a) (vx_X px BX AX) free) (hS : va_S A0 H0 H locs) (hA : ∀ q, q < H.size → A1 q → A0 q) (hf : ∀ q, free q → A0 q) (hAX : ∀ q, q < H.size → AX q → A0 q)
    (kx : ∀ (E : String) (ce : Cell) (q9 : Addr) (u : SX) (t : State) (H1 : Heap) (locs1 : List Loc), t.heap = H1 → s.vm.Alike t.vm → px u → BX E u t → H.size ≤ H1.size → (∀ q : Nat, q < H.size → ¬ AX q → H1[q]? = H[q]?) → va_S A0 H0 H1 locs1 → H1[q9]? = some ce → ce.vm = .none → s.vm.findClass E = some ce.cls → vx_W p l e R s m args below meth c H1 locs1 (cells + mc) (slots + ms) Q (F0 m pc ls rest) q9)
    (kk : ∀ (u : S) (t : State) (H1 : Heap) (locs1 : List Loc), t.heap = H1 → s.vm.Alike t.vm → post u → B u t → H.size ≤ H1.size → (∀ q : Nat, q < H.size → ¬ A1 q → H1[q]? = H[q]?) → va_S A0 H0 H1 locs1 → W p l e R s m args below meth c H1 locs1 (cells + mc) (slots + ms) Q (F0 m (pc + 3) ls (rest))) : W p l e R s m args below meth c H locs cells slots Q (F0 m pc ls st0) := by
  intro T hT X
  rcases hr T hT X with ⟨v, st₀, t, T', L, h0, X', hL, e1, e2, ⟨⟨u, hv, hp, hb⟩, hF⟩, st⟩ | ⟨q, st₀, t, T', L, E, ce, h0, X', hL, e1, e2, ⟨u, hp, hb, hF⟩, hce, hcv, hcl, st⟩
  · cases hv
    obtain ⟨k1, k2, k3⟩ := vx_keep h0 e1 hS hA hf hL hF
    obtain ⟨t2, a1, b1⟩ := kk u t T'.heap (locs ++ L) e1.symm (by rw [← e2]; exact X'.warmed.alike) hp hb k1 k2 k3 T' rfl X'
    exact ⟨t2, st t2 a1, b1⟩
  · obtain ⟨k1, k2, k3⟩ := vx_keep h0 e1 hS hAX hf hL hF
    obtain ⟨t2, a1, b1⟩ := kx E ce q u t T'.heap (locs ++ L) e1.symm (by rw [← e2]; exact X'.warmed.alike) hp hb k1 k2 k3 (by rw [e1]; exact hce) hcv hcl T' rfl X'
    exact ⟨t2, st.trans a1, b1⟩
/-- caught by the row x of this method's table; the rows ahead don't take it -/
theorem vx_catch {own name : String} {E : String} {ce : Cell} {q : Addr} (hown : s.vm.findClass own = some m.cls) (pre : List ExceptionTableEntry) (x : ExceptionTableEntry) (suf : List ExceptionTableEntry) (hsplit : c.exceptionTable.toList = pre ++ x :: suf)
    (hpass : ∀ z ∈ pre, covers z pc = false ∨ (z.catchType ≠ 0 ∧ ∃ nm : String, (Cond.classLink own z.catchType nm).before args s = true ∧ va_Nc E nm s)) (hx : covers x pc = true) (h0 : x.catchType ≠ 0)
    (hlink : (Cond.classLink own x.catchType name).before args s = true) (hcast : (Cond.castable E name).before args s = true) (hcell : H[q]? = some ce) (hv : ce.vm = .none) (hcl : s.vm.findClass E = some ce.cls)
    (kk : W p l e R s m args below meth c H locs cells slots Q (F0 m x.handlerPc ls [.ref q])) : vx_W p l e R s m args below meth c H locs cells slots Q (F0 m pc ls rest) q := by
  intro T hT X
  have hpl : e.platform.magicAccessors = ({} : Platform).magicAccessors := by rw [X.admits.platform]
  obtain ⟨c3, c4, hc3, hc4, hasg⟩ := Cond.castable_spec hcast
  cases Option.some.inj (hc3.symm.trans hcl)
  obtain ⟨c5, hc5, hcl5⟩ := Cond.classLink_spec hown hlink e.platform hpl
  cases Option.some.inj (hc4.symm.trans hc5)
  obtain ⟨vm', X', st⟩ := X.thenCaughtThrough q (g := F0 m pc ls rest) rfl (Steps.refl _) (by rw [hT]; exact hcell) (by rw [hv]; rfl) (by obtain ⟨k9, h9, -⟩ := Vm.findClass_spec hcl; exact ⟨k9, h9⟩) pre x suf hsplit
    (fun z hz => by
      rcases hpass z hz with h | ⟨hz0, nm, hl1, hn1⟩
      · exact Or.inl h
      · obtain ⟨c6, hc6, hcl6⟩ := Cond.classLink_spec hown hl1 e.platform hpl
        obtain ⟨a8, b8, h1, h2, h3⟩ := hn1
        cases Option.some.inj (h1.symm.trans hcl)
        cases Option.some.inj (h2.symm.trans hc6)
        exact Or.inr ⟨hz0, _, hcl6, h3⟩) hx (Or.inr ⟨h0, c4, hcl5, hasg⟩)
  obtain ⟨t, a1, b1⟩ := kk (T.setVm vm') hT X'
  exact ⟨t, st.trans a1, b1⟩
end Rows
section Ends
variable {p : Program} {l : Launch} {e : Env} {R : Room} {s : State} {m : MethodId} {args : Array Value} {below : List Frame} {meth : Method} {c : Code} {H : Heap} {locs : List Loc} {cells slots : Nat} {Q : State → Prop}
variable {mc ms : Nat} {free : Addr → Prop} {A0 A1 : Nat → Prop} {H0 : Heap} {a : Array Value} {ls : Array Slot} {st0 rest : List Value}
variable {Qc : Array Value → State → Outcome → State → Prop} {XC : String → State → State → Prop}
/-- what a body that may throw owes at its end -/
def vx_MQ (below : List Frame) (Qc : Array Value → State → Outcome → State → Prop) (XC : String → State → State → Prop) (a : Array Value) (s : State) (mc ms : Nat) (free : Addr → Prop) : State → Prop := fun t =>
  ∃ o, t.status = .running ∧ Ended t below o ∧ vx_Q Qc XC mc ms free a s o t
theorem vx_ret {g : JFrame} {mc ms : Nat} (k : W p l e R s m args below meth c H locs cells slots (MQ below Qc args s mc ms free) g) : W p l e R s m args below meth c H locs cells slots (vx_MQ below Qc XC args s mc ms free) g := by
  intro T hT X
  obtain ⟨t, a1, o, b1, b2, b3, b4⟩ := k T hT X
  exact ⟨t, a1, o, b1, b2, Or.inl ⟨b3, b4⟩⟩
/-- not caught here: it goes on to the caller -/
theorem vx_widen {g : JFrame} {q : Addr} {k n : Nat} (h1 : cells ≤ k) (h2 : slots ≤ n) (kk : vx_W p l e R s m args below meth c H locs k n Q g q) : vx_W p l e R s m args below meth c H locs cells slots Q g q := fun T hT X => kk T hT (stand_widen X h1 h2)
theorem vx_out {pc : Nat} {E : String} {ce : Cell} {q : Addr} {mc ms : Nat} (hout : ∀ x ∈ c.exceptionTable.toList, covers x pc = false) (hlocks : meth.locks = false) (hcell : H[q]? = some ce) (hv : ce.vm = .none) (hcl : s.vm.findClass E = some ce.cls)
    (hx : ∀ t : State, t.heap = H → s.vm.Alike t.vm → XC E s t) (hf : ∀ z ∈ locs, free z.base) (hc : cells ≤ mc) (hs : slots ≤ ms) :
    vx_W p l e R s m args below meth c H locs cells slots (vx_MQ below Qc XC args s mc ms free) (F0 m pc ls rest) q := by
  intro T hT X
  obtain ⟨st1, hrun, hend, hW, hsm⟩ := X.leaveThrown q (g := F0 m pc ls rest) rfl rfl rfl hout hlocks
  have hcell9 : (T.setFrames (.throwing q :: below)).heap[q]? = some ce := by
    show T.heap[q]? = some ce
    rw [hT]; exact hcell
  exact ⟨_, st1, .threw q, hrun, hend, Or.inr ⟨q, rfl, E, ce, locs, hx _ hT hW.alike, hcell9, hv, hcl, hW, hsm.mono hc hs, hf⟩⟩
theorem vx_frame {U : State} {k n : Nat} (h : s.sameButNew ({ U with vm := s.vm } : State) locs k n) : s.heap.size ≤ U.heap.size ∧ ∀ q : Nat, q < s.heap.size → (∀ z ∈ locs, z.base ≠ q) → U.heap[q]? = s.heap[q]? := by
  obtain ⟨-, h2, -, -, -, h6⟩ := h
  refine ⟨h2, fun q hq hz => ?_⟩
  obtain ⟨c9, e1, e2, e3, e4⟩ := h6 q _ (Array.getElem?_eq_getElem hq)
  have hs : c9.slots = (s.heap[q]).slots := Array.ext_getElem? fun i => e4 i fun hm => hz _ hm rfl
  have h9 : c9 = s.heap[q] := by
    rw [hs] at e2
    exact e2
  have e5 : U.heap[q]? = some c9 := e1
  rw [e5, h9, Array.getElem?_eq_getElem hq]
/-- the words of a throw but the four that speak of the heap -/
def vx_no (w : Cond) : Bool := decide (w ≠ .isRef (.static Bundle.tN "UNASSIGNED_STACK" Bundle.steD)) && decide (w ≠ .isRef (.static Bundle.tN "SUPPRESSED_SENTINEL" Bundle.listD)) && decide (w ≠ .laysStatic Bundle.tN "UNASSIGNED_STACK" Bundle.steD) && decide (w ≠ .laysStatic Bundle.tN "SUPPRESSED_SENTINEL" Bundle.listD)
def vx_at0 (own : String) (ic : Nat) (X : String) (names : List String) : List Cond := (Bundle.ownAtoms0 own ic X names).filter vx_no
def vx_atS (own : String) (ic : Nat) (X : String) (names : List String) : List Cond := (Bundle.ownAtoms own ic X names).filter vx_no
/-- a word that the tables alone decide, or a good one -/
def vx_ot (w : Cond) : Bool := w.onTables || goodWord w
theorem vx_ot_at {args a' : Array Value} {s U : State} {w : Cond} (hW : s.WarmedH U.vm) (hvm : s.vm = U.vm) (hg : vx_ot w = true) (h : w.before args s = true) : w.before a' U = true := by
  simp only [vx_ot, Bool.or_eq_true] at hg
  rcases hg with hg | hg
  · exact va_tabs hg hvm h
  · exact word_at hW (good_of_word hg) h
/-- a list's words: the good ones out of the method's own list, the others by premises of their own -/
theorem vx_hat {args : Array Value} {s : State} {L B : List Cond} (h1 : ∀ w ∈ L.filter goodWord, w.before args s = true) (h2 : ∀ w ∈ L.filter (fun w => !goodWord w), w ∈ B) (h3 : ∀ w ∈ B, w.before args s = true) : ∀ w ∈ L, w.before args s = true := by
  intro w hw
  by_cases g : goodWord w = true
  · exact h1 w (List.mem_filter.mpr ⟨hw, g⟩)
  · refine h3 w (h2 w (List.mem_filter.mpr ⟨hw, ?_⟩))
    show (!goodWord w) = true
    cases hgw : goodWord w
    · rfl
    · exact absurd hgw g
theorem vx_c {args : Array Value} {s : State} {w : Cond} {B : List Cond} (h : w.before args s = true) (t : ∀ w ∈ B, w.before args s = true) : ∀ w' ∈ w :: B, w'.before args s = true := fun w' h' => (List.mem_cons.mp h').elim (fun e => by rw [e]; exact h) (t w')
theorem vx_n {args : Array Value} {s : State} : ∀ w ∈ ([] : List Cond), w.before args s = true := fun _ h => nomatch h
theorem vx_own {args : Array Value} {s : State} {L : List Cond} (h1 : ∀ w ∈ L.filter vx_no, w.before args s = true)
    (hU : (Cond.isRef (.static Bundle.tN "UNASSIGNED_STACK" Bundle.steD)).before args s = true) (hN : (Cond.isRef (.static Bundle.tN "SUPPRESSED_SENTINEL" Bundle.listD)).before args s = true)
    (lU : (Cond.laysStatic Bundle.tN "UNASSIGNED_STACK" Bundle.steD).before args s = true) (lN : (Cond.laysStatic Bundle.tN "SUPPRESSED_SENTINEL" Bundle.listD).before args s = true) : ∀ w ∈ L, w.before args s = true := by
  intro w hw
  by_cases e1 : w = .isRef (.static Bundle.tN "UNASSIGNED_STACK" Bundle.steD)
  · rw [e1]; exact hU
  · by_cases e2 : w = .isRef (.static Bundle.tN "SUPPRESSED_SENTINEL" Bundle.listD)
    · rw [e2]; exact hN
    · by_cases e3 : w = .laysStatic Bundle.tN "UNASSIGNED_STACK" Bundle.steD
      · rw [e3]; exact lU
      · by_cases e4 : w = .laysStatic Bundle.tN "SUPPRESSED_SENTINEL" Bundle.listD
        · rw [e4]; exact lN
        · exact h1 w (List.mem_filter.mpr ⟨hw, by unfold vx_no; rw [decide_eq_true e1, decide_eq_true e2, decide_eq_true e3, decide_eq_true e4]; rfl⟩)
/-- where a static field lies, its class's statics cell in H -/
def vx_L (C n d : String) (A : Nat → Prop) (U : State) (H : Heap) : Prop := ∃ (c : ClassId) (k : Class) (i : Nat) (f : Field) (a : Nat) (cell : Cell), U.vm.findClass C = some c ∧ U.fieldFound? C n d = some (c, k, i, f) ∧ f.isStatic = true ∧ k.statics = some a ∧ H[a]? = some cell ∧ cell.vm.isStatics = true ∧ cell.cls = c ∧ f.slot < cell.slots.size ∧ k.staticTypes[f.slot]? = some f.type ∧ ¬ A a
theorem vx_L.moved {C n d : String} {A : Nat → Prop} {u U : State} {H : Heap} (hvm : u.vm.Alike U.vm) (h : vx_L C n d A u H) : vx_L C n d A U H := by
  obtain ⟨c, k, i, f, a, cell, h1, h2, h3, h4, h5, h6, h7, h8, h9, h10⟩ := h
  obtain ⟨k', hi', he⟩ := State.fieldFound?_setVm hvm h2
  exact ⟨c, k', i, f, a, cell, by rw [hvm.findClass]; exact h1, hi', h3, by rw [he]; exact h4, h5, h6, h7, h8, by rw [he]; exact h9, h10⟩
theorem vx_L.kept {C n d : String} {A : Nat → Prop} {U : State} {H H1 : Heap} (h : vx_L C n d A U H) (hq : ∀ a : Nat, a < H.size → ¬ A a → H1[a]? = H[a]?) : vx_L C n d A U H1 := by
  obtain ⟨c, k, i, f, a, cell, h1, h2, h3, h4, h5, h6, h7, h8, h9, h10⟩ := h
  exact ⟨c, k, i, f, a, cell, h1, h2, h3, h4, by rw [hq a (Array.getElem?_eq_some_iff.mp h5).1 h10]; exact h5, h6, h7, h8, h9, h10⟩
theorem vx_L.narrow {C n d : String} {A B : Nat → Prop} {U : State} {H : Heap} (h : vx_L C n d A U H) (hAB : ∀ q, B q → A q) : vx_L C n d B U H := by
  obtain ⟨c, k, i, f, a, cell, h1, h2, h3, h4, h5, h6, h7, h8, h9, h10⟩ := h
  exact ⟨c, k, i, f, a, cell, h1, h2, h3, h4, h5, h6, h7, h8, h9, fun z => h10 (hAB _ z)⟩
theorem vx_L.word {C n d : String} {A : Nat → Prop} {s : State} {args : Array Value} (h : vx_L C n d A s s.heap) : (Cond.laysStatic C n d).before args s = true := by
  obtain ⟨c, k, i, f, a, cell, h1, h2, h3, h4, h5, h6, h7, h8, h9, -⟩ := h
  show (Cond.laysStatic C n d).holds args s none s [] = true
  exact Cond.laysStatic_of h1 h2 h3 h4 h5 h6 h7 h8 h9
/-- .. and what it holds: null or some reference -/
def vx_Zq (C n d : String) (A : Nat → Prop) (U : State) (H : Heap) : Prop := va_Zq C n d A U H ∧ vx_L C n d A U H
theorem vx_Zq.moved {C n d : String} {A : Nat → Prop} {u U : State} {H : Heap} (hvm : u.vm.Alike U.vm) (h : vx_Zq C n d A u H) : vx_Zq C n d A U H := ⟨va_Zq.moved hvm h.1, vx_L.moved hvm h.2⟩
theorem vx_Zq.kept {C n d : String} {A : Nat → Prop} {U : State} {H H1 : Heap} (h : vx_Zq C n d A U H) (hq : ∀ a : Nat, a < H.size → ¬ A a → H1[a]? = H[a]?) : vx_Zq C n d A U H1 := ⟨va_Zq.kept h.1 hq, vx_L.kept h.2 hq⟩
theorem vx_Zq.narrow {C n d : String} {A B : Nat → Prop} {U : State} {H : Heap} (h : vx_Zq C n d A U H) (hAB : ∀ q, B q → A q) : vx_Zq C n d B U H := ⟨va_Zq.narrow h.1 hAB, vx_L.narrow h.2 hAB⟩
theorem vx_Zqof {args : Array Value} {s : State} {C n d : String} {A : Nat → Prop} (hl : (Cond.laysStatic C n d).before args s = true) (hini : (Cond.initialized C).before args s = true) (h : (Cond.isRef (.static C n d)).before args s = true) (hA : ∀ a : Nat, a < s.heap.size → ¬ A a) : vx_Zq C n d A s s.heap := by
  refine ⟨va_Zqof hl hini h hA, ?_⟩
  obtain ⟨c, k, i, f, a, cell, h1, h2, h3, h4, h5, h6, h7, h8, h9⟩ := Cond.laysStatic_spec hl
  exact ⟨c, k, i, f, a, cell, h1, h2, h3, h4, h5, h6, h7, h8, h9, hA a (Array.getElem?_eq_some_iff.mp h5).1⟩
theorem vx_isRef {C n d : String} {v : Value} {A : Nat → Prop} {s : State} {args : Array Value} (h : va_Z C n d v A s s.heap) (hv : v.isRef = true) : (Cond.isRef (.static C n d)).before args s = true := by
  obtain ⟨cf, kf, fi, f, a, cell, h1, h2, h3, h4, h5, h6, h7, -⟩ := h
  have he : (Term.static C n d).eval args s none [] s = some v := by
    simp [Term.eval, State.fieldNamed?, h1, h2, h4, h5, h6, h7]
  simp only [Cond.before, Cond.holds, Cond.value, he]
  cases v <;> simp_all [Value.isRef]
theorem vx_isRefq {C n d : String} {A : Nat → Prop} {s : State} {args : Array Value} (h : va_Zq C n d A s s.heap) : (Cond.isRef (.static C n d)).before args s = true := by
  rcases h with h | ⟨t, h⟩
  · exact vx_isRef h rfl
  · exact vx_isRef h rfl
/-- the same frame, seen from here: as if the method were called anew in this heap -/
theorem vx_rebase {T : State} (X : Stand p l e R s m args below meth c T locs cells slots) {R' : Room} (hf : R'.frames ≤ R.frames) (hl : R'.locals ≤ R.locals) (hc : cells + R'.cells ≤ R.cells) (hs : slots + R'.slots ≤ R.slots) :
    Stand p l e R' ((T.setVm s.vm).setFrames (.invoking m args :: below)) m args below meth c T [] 0 0 := by
  have htop : (T.setVm s.vm).topJava?.isSome := X.here.top
  have hF : ((T.setVm s.vm).setFrames (.invoking m args :: below)).frames = .invoking m args :: below := State.frames_setFrames _ (State.cur_lt_of_top htop)
  obtain ⟨g₀, hg0⟩ := Option.isSome_iff_exists.mp htop
  obtain ⟨r, hr⟩ := State.topJava?_eq_some.mp hg0
  have hl9 : e.platform.stackLimits (T.setVm s.vm).me = e.platform.stackLimits s.me := X.limits
  have hb9 : (T.setVm s.vm).me.stackBytes = s.me.stackBytes := X.bytes
  refine ⟨X.admits, X.cas, X.clock, hF, ?_, X.hears, X.method, X.code, X.here, X.tail, X.warmed, ?_, ?_, ?_⟩
  · have h := X.room
    have hU : ((T.setVm s.vm).setFrames (.invoking m args :: below)).localsInUse = s.localsInUse := by
      rw [State.localsInUse_invoking hF (meth := meth) (c := c) X.method X.code, State.localsInUse_invoking X.frames X.method X.code]
    simp only [State.hasRoom, Bool.and_eq_true, decide_eq_true_eq] at h ⊢
    obtain ⟨⟨⟨⟨h1, h2, h3, h4, h5, h6⟩, h7⟩, h8⟩, h9⟩ := h
    rw [X.frames, List.length_cons] at h2 h3
    have q1 := X.heapSize
    have q2 := X.used
    simp only [hF, hU, List.length_cons, State.stackLimits_setFrames, State.stackBytes_setFrames, hl9, hb9]
    refine ⟨⟨⟨⟨by omega, by omega, by omega, by omega, by omega, h6⟩, ?_⟩, ?_⟩, X.book⟩
    · show T.heap.size + R'.cells ≤ e.platform.maxCells
      omega
    · show T.slotsUsed + R'.slots ≤ e.platform.maxSlots
      omega
  · rw [State.stackLimits_setFrames]; rfl
  · rw [State.stackBytes_setFrames]; rfl
  · refine ⟨?_, Nat.le_refl _, Nat.le_refl _, ?_, ?_, fun a c9 h9 => ⟨c9, h9, rfl, rfl, fun _ _ => rfl⟩⟩
    · obtain ⟨t, ht, -⟩ := State.frames_cons hr
      show T.setVm s.vm = { ((T.setVm s.vm).setFrames (.invoking m args :: below)).setFrames (T.setVm s.vm).frames with heap := T.heap, slotsUsed := T.slotsUsed }
      rw [State.setFrames_setFrames, State.setFrames_self ht]
      rfl
    · show T.slotsUsed = T.slotsUsed + ((T.heap.toList.drop T.heap.size).map (·.slots.size)).sum
      rw [List.drop_eq_nil_of_le (Nat.le_of_eq Array.length_toList)]
      rfl
    · show ((T.heap.toList.drop T.heap.size).map (·.slots.size)).sum ≤ 0
      rw [List.drop_eq_nil_of_le (Nat.le_of_eq Array.length_toList)]
      exact Nat.le_refl _
/-- 'throw new E()': new; dup; invokespecial; athrow -/
theorem vx_throw0 {cc : ByteArray} {pc : Nat} (hexec : p.tables.exec = Jvm.exec) (hb : c.code = cc) (hl : l.stackTraces = false) {own cls : String} {names : List String} {ik ic mc ms : Nat} {A : Nat → Prop}
    (hown : s.vm.findClass own = some m.cls) (hcls : Bundle.fit cls = true) (hnames : ∀ n ∈ names, Bundle.fit n = true)
    (hk : (Cond.classLink own ik cls).before args s = true) (hini : (Cond.initialized cls).before args s = true) (hat : ∀ w ∈ vx_at0 own ic cls names, w.before args s = true)
    (hgood : ∀ w ∈ Cond.classLink own ik cls :: Cond.initialized cls :: vx_at0 own ic cls names, vx_ot w = true)
    (hU : vx_Zq Bundle.tN "UNASSIGNED_STACK" Bundle.steD A s s.heap) (hN : vx_Zq Bundle.tN "SUPPRESSED_SENTINEL" Bundle.listD A s s.heap) (hS : va_S A s.heap H locs) (hsize : ls.size = c.maxLocals)
    (d0 : decode cc pc = .ok (.new ik, 3)) (d3 : decode cc (pc + 3) = .ok (.dup, 1)) (d4 : decode cc (pc + 4) = .ok (.invokespecial ic, 3)) (d7 : decode cc (pc + 7) = .ok (.athrow, 1))
    (hout : ∀ x ∈ c.exceptionTable.toList, covers x (pc + 7) = false)
    (hRframes : names.length + 3 < R.frames) (hRlocals : (rest.map fun v => v.category).sum + (13 * (names.length + 1) + 42) ≤ R.locals) (hRcells : cells + 1 ≤ R.cells) (hRslots : slots + 6 ≤ R.slots) (hlocks : meth.locks = false)
    (hx : ∀ t : State, s.vm.Alike t.vm → H.size ≤ t.heap.size → (∀ q : Nat, q < H.size → t.heap[q]? = H[q]?) → XC cls s t)
    (hf : ∀ z ∈ locs, free z.base) (hc : cells + 1 ≤ mc) (hs : slots + 6 ≤ ms) :
    W p l e R s m args below meth c H locs cells slots (vx_MQ below Qc XC args s mc ms free) (F0 m pc ls rest) := by
  intro T hT X
  have htr : e.platform.stackTraces = false := (show e.platform.stackTraces = l.stackTraces by rw [X.admits.platform]).trans hl
  have Y := vx_rebase X (R' := { frames := R.frames, locals := R.locals, cells := 1, slots := 6 }) (Nat.le_refl _) (Nat.le_refl _) hRcells hRslots
  obtain ⟨s', hA⟩ : ∃ z, z = (T.setVm s.vm).setFrames (.invoking m args :: below) := ⟨_, rfl⟩
  rw [← hA] at Y
  have hvm : s'.vm = s.vm := by rw [hA]; rfl
  have hhp : s'.heap = H := by rw [hA]; exact hT
  have hW0 : s.WarmedH s'.vm := by rw [hvm]; exact State.WarmedH.refl s
  have hat' : ∀ w ∈ vx_at0 own ic cls names, w.before args s' = true := fun w hw => vx_ot_at hW0 hvm.symm (hgood w (List.mem_cons_of_mem _ (List.mem_cons_of_mem _ hw))) (hat w hw)
  have hk' : (Cond.classLink own ik cls).before args s' = true := vx_ot_at hW0 hvm.symm (hgood _ List.mem_cons_self) hk
  have hini' : (Cond.initialized cls).before args s' = true := vx_ot_at hW0 hvm.symm (hgood _ (List.mem_cons_of_mem _ List.mem_cons_self)) hini
  have hU' : vx_Zq Bundle.tN "UNASSIGNED_STACK" Bundle.steD A s' s'.heap := by rw [hhp]; exact vx_Zq.moved hW0.alike (hU.kept hS.2.1)
  have hN' : vx_Zq Bundle.tN "SUPPRESSED_SENTINEL" Bundle.listD A s' s'.heap := by rw [hhp]; exact vx_Zq.moved hW0.alike (hN.kept hS.2.1)
  have h : ∀ w ∈ Bundle.ownAtoms0 own ic cls names, w.before args s' = true := vx_own hat' (vx_isRefq hU'.1) (vx_isRefq hN'.1) hU'.2.word hN'.2.word
  have hown' : s'.vm.findClass own = some m.cls := by rw [hvm]; exact hown
  have hins : (Cond.instantiable cls 6).before args s' = true := h _ (by simp [Bundle.ownAtoms0])
  obtain ⟨vm₁, cX, kX, hfX, hkX, -, -, X₁, st1⟩ := Y.newCold hexec (own := own) (C := cls) (index := ik) (n := 6) hown' hk' hins hini'
    (g := F0 m pc ls rest) rfl (by rw [hb]; exact d0) (Nat.le_refl _) (Nat.le_refl _)
  generalize hT1 : (T.setVm vm₁).pushCell { cls := cX, slots := kX.instanceTypes.map defaultValue, vm := .none } = T1 at X₁ st1
  have hcat : (Value.ref T.heap.size).category = 1 := rfl
  have hcellA : T1.heap[T.heap.size]? = some (freshCell cX kX) := by rw [← hT1]; exact State.heap_pushCell_size _ _
  have d3' : decode c.code (pc + 3) = .ok (.dup, 1) := by rw [hb]; exact d3
  obtain ⟨U, hsteps, hrun, hend, hW, hsame, ce, hce, hO⟩ := X₁.ctorThrow0 hexec htr (own := own) (cls := cls) (names := names) (ic := ic) hown' hcls hnames h (fun x hx => nomatch hx) hfX hkX hcellA (by rw [hhp, hT]; exact Nat.le_refl _)
    (g := { method := m, pc := pc + 4, locals := ls, stack := .ref T.heap.size :: .ref T.heap.size :: rest, locked := none }) rfl hsize rfl rfl (rest := rest) rfl
    (by rw [hb]; exact d4) (by rw [hb]; exact d7) hout hRframes (by simp only [List.map_cons, List.sum_cons, hcat]; omega) hlocks
  obtain ⟨f1, f2⟩ := vx_frame hsame
  rw [hhp] at f1 f2
  have hWs : s.WarmedH U.vm := State.WarmedH.trans hW0 hW
  have hcl : s.vm.findClass cls = some ce.cls := by
    have h9 := hO.cls
    rw [hvm] at h9
    exact h9
  have hall : s.sameButNew ({ U with vm := s.vm } : State) locs mc ms := by
    subst hA
    obtain ⟨e1, e2⟩ := hsame
    rw [State.setFrames_setFrames] at e1
    have h2 : (T.setVm s.vm).sameButNew ({ U with vm := s.vm } : State) [] (0 + 1) (0 + 6) := ⟨e1, e2⟩
    have h3 := X.same.trans h2
    rw [List.append_nil] at h3
    exact h3.mono hc hs
  refine ⟨U, ?_, .threw T.heap.size, hrun, hend, Or.inr ⟨T.heap.size, rfl, cls, ce, locs, hx U hWs.alike f1 (fun q hq => f2 q hq (fun z hz => nomatch hz)), hce, hO.vm, hcl, hWs, hall, hf⟩⟩
  refine st1 _ ?_
  show Steps p.tables e below (T1.setTop { method := m, pc := pc + 3, locals := ls, stack := .ref T.heap.size :: rest, locked := none }) _
  jvm_step X₁.here [X₁.here.top, hexec, d3', Value.category]
  exact hsteps
/-- 'throw new E("text")': new; dup; ldc; invokespecial; athrow -/
theorem vx_throwS {cc : ByteArray} {pc : Nat} (hexec : p.tables.exec = Jvm.exec) (hb : c.code = cc) (hl : l.stackTraces = false) {own cls text : String} {names : List String} {ik is ic mc ms sa : Nat} {A : Nat → Prop}
    (hown : s.vm.findClass own = some m.cls) (hcls : Bundle.fit cls = true) (hnames : ∀ n ∈ names, Bundle.fit n = true)
    (hk : (Cond.classLink own ik cls).before args s = true) (hini : (Cond.initialized cls).before args s = true) (hstr : vk_R own is text sa s) (hat : ∀ w ∈ vx_atS own ic cls names, w.before args s = true)
    (hgood : ∀ w ∈ Cond.classLink own ik cls :: Cond.initialized cls :: vx_atS own ic cls names, vx_ot w = true)
    (hU : vx_Zq Bundle.tN "UNASSIGNED_STACK" Bundle.steD A s s.heap) (hN : vx_Zq Bundle.tN "SUPPRESSED_SENTINEL" Bundle.listD A s s.heap) (hS : va_S A s.heap H locs) (hsize : ls.size = c.maxLocals)
    (d0 : decode cc pc = .ok (.new ik, 3)) (d3 : decode cc (pc + 3) = .ok (.dup, 1)) (d4 : decode cc (pc + 4) = .ok (.ldc is, 2)) (d6 : decode cc (pc + 6) = .ok (.invokespecial ic, 3)) (d9 : decode cc (pc + 9) = .ok (.athrow, 1))
    (hout : ∀ x ∈ c.exceptionTable.toList, covers x (pc + 9) = false)
    (hRframes : names.length + 3 < R.frames) (hRlocals : (rest.map fun v => v.category).sum + (13 * (names.length + 1) + 43) ≤ R.locals) (hRcells : cells + 1 ≤ R.cells) (hRslots : slots + 6 ≤ R.slots) (hlocks : meth.locks = false)
    (hx : ∀ t : State, s.vm.Alike t.vm → H.size ≤ t.heap.size → (∀ q : Nat, q < H.size → t.heap[q]? = H[q]?) → XC cls s t)
    (hf : ∀ z ∈ locs, free z.base) (hc : cells + 1 ≤ mc) (hs : slots + 6 ≤ ms) :
    W p l e R s m args below meth c H locs cells slots (vx_MQ below Qc XC args s mc ms free) (F0 m pc ls rest) := by
  intro T hT X
  have htr : e.platform.stackTraces = false := (show e.platform.stackTraces = l.stackTraces by rw [X.admits.platform]).trans hl
  have Y := vx_rebase X (R' := { frames := R.frames, locals := R.locals, cells := 1, slots := 6 }) (Nat.le_refl _) (Nat.le_refl _) hRcells hRslots
  obtain ⟨s', hA⟩ : ∃ z, z = (T.setVm s.vm).setFrames (.invoking m args :: below) := ⟨_, rfl⟩
  rw [← hA] at Y
  have hvm : s'.vm = s.vm := by rw [hA]; rfl
  have hhp : s'.heap = H := by rw [hA]; exact hT
  have hW0 : s.WarmedH s'.vm := by rw [hvm]; exact State.WarmedH.refl s
  have hat' : ∀ w ∈ vx_atS own ic cls names, w.before args s' = true := fun w hw => vx_ot_at hW0 hvm.symm (hgood w (List.mem_cons_of_mem _ (List.mem_cons_of_mem _ hw))) (hat w hw)
  have hk' : (Cond.classLink own ik cls).before args s' = true := vx_ot_at hW0 hvm.symm (hgood _ List.mem_cons_self) hk
  have hini' : (Cond.initialized cls).before args s' = true := vx_ot_at hW0 hvm.symm (hgood _ (List.mem_cons_of_mem _ List.mem_cons_self)) hini
  have hU' : vx_Zq Bundle.tN "UNASSIGNED_STACK" Bundle.steD A s' s'.heap := by rw [hhp]; exact vx_Zq.moved hW0.alike (hU.kept hS.2.1)
  have hN' : vx_Zq Bundle.tN "SUPPRESSED_SENTINEL" Bundle.listD A s' s'.heap := by rw [hhp]; exact vx_Zq.moved hW0.alike (hN.kept hS.2.1)
  have h : ∀ w ∈ Bundle.ownAtoms own ic cls names, w.before args s' = true := vx_own hat' (vx_isRefq hU'.1) (vx_isRefq hN'.1) hU'.2.word hN'.2.word
  have hown' : s'.vm.findClass own = some m.cls := by rw [hvm]; exact hown
  have hins : (Cond.instantiable cls 6).before args s' = true := h _ (by simp [Bundle.ownAtoms])
  obtain ⟨vm₁, cX, kX, hfX, hkX, -, -, X₁, st1⟩ := Y.newCold hexec (own := own) (C := cls) (index := ik) (n := 6) hown' hk' hins hini'
    (g := F0 m pc ls rest) rfl (by rw [hb]; exact d0) (Nat.le_refl _) (Nat.le_refl _)
  generalize hT1 : (T.setVm vm₁).pushCell { cls := cX, slots := kX.instanceTypes.map defaultValue, vm := .none } = T1 at X₁ st1
  have hcat : (Value.ref T.heap.size).category = 1 := rfl
  have hcellA : T1.heap[T.heap.size]? = some (freshCell cX kX) := by rw [← hT1]; exact State.heap_pushCell_size _ _
  have d3' : decode c.code (pc + 3) = .ok (.dup, 1) := by rw [hb]; exact d3
  have d4' : decode c.code (pc + 4) = .ok (.ldc is, 2) := by rw [hb]; exact d4
  have hstr' : vk_R own is text sa s' := vk_R.warm hW0 hstr
  obtain ⟨U, hsteps, hrun, hend, hW, hsame, ce, hce, hO⟩ := X₁.ctorThrowS hexec htr (own := own) (cls := cls) (names := names) (ic := ic) hown' hcls hnames h (fun x hx => nomatch hx) hfX hkX hcellA (by rw [hhp, hT]; exact Nat.le_refl _) (msg := .ref sa) rfl
    (g := { method := m, pc := pc + 6, locals := ls, stack := .ref sa :: .ref T.heap.size :: .ref T.heap.size :: rest, locked := none }) rfl hsize rfl rfl (rest := rest) rfl
    (by rw [hb]; exact d6) (by rw [hb]; exact d9) hout hRframes (by simp only [List.map_cons, List.sum_cons, hcat]; omega) hlocks
  obtain ⟨f1, f2⟩ := vx_frame hsame
  rw [hhp] at f1 f2
  have hWs : s.WarmedH U.vm := State.WarmedH.trans hW0 hW
  have hcl : s.vm.findClass cls = some ce.cls := by
    have h9 := hO.cls
    rw [hvm] at h9
    exact h9
  have hall : s.sameButNew ({ U with vm := s.vm } : State) locs mc ms := by
    subst hA
    obtain ⟨e1, e2⟩ := hsame
    rw [State.setFrames_setFrames] at e1
    have h2 : (T.setVm s.vm).sameButNew ({ U with vm := s.vm } : State) [] (0 + 1) (0 + 6) := ⟨e1, e2⟩
    have h3 := X.same.trans h2
    rw [List.append_nil] at h3
    exact h3.mono hc hs
  refine ⟨U, ?_, .threw T.heap.size, hrun, hend, Or.inr ⟨T.heap.size, rfl, cls, ce, locs, hx U hWs.alike f1 (fun q hq => f2 q hq (fun z hz => nomatch hz)), hce, hO.vm, hcl, hWs, hall, hf⟩⟩
  refine st1 _ ?_
  show Steps p.tables e below (T1.setTop { method := m, pc := pc + 3, locals := ls, stack := .ref T.heap.size :: rest, locked := none }) _
  jvm_step X₁.here [X₁.here.top, hexec, d3', Value.category]
  exact X₁.ldcString hexec (own := own) (text := text) (index := is) (a := sa) hown' hstr'.1 hstr'.2
    (g := { method := m, pc := pc + 4, locals := ls, stack := .ref T.heap.size :: .ref T.heap.size :: rest, locked := none }) rfl d4' _ hsteps
/-- 'throw new E("text")', the text by a wide index -/
theorem vx_throwSW {cc : ByteArray} {pc : Nat} (hexec : p.tables.exec = Jvm.exec) (hb : c.code = cc) (hl : l.stackTraces = false) {own cls text : String} {names : List String} {ik is ic mc ms sa : Nat} {A : Nat → Prop}
    (hown : s.vm.findClass own = some m.cls) (hcls : Bundle.fit cls = true) (hnames : ∀ n ∈ names, Bundle.fit n = true)
    (hk : (Cond.classLink own ik cls).before args s = true) (hini : (Cond.initialized cls).before args s = true) (hstr : vk_R own is text sa s) (hat : ∀ w ∈ vx_atS own ic cls names, w.before args s = true)
    (hgood : ∀ w ∈ Cond.classLink own ik cls :: Cond.initialized cls :: vx_atS own ic cls names, vx_ot w = true)
    (hU : vx_Zq Bundle.tN "UNASSIGNED_STACK" Bundle.steD A s s.heap) (hN : vx_Zq Bundle.tN "SUPPRESSED_SENTINEL" Bundle.listD A s s.heap) (hS : va_S A s.heap H locs) (hsize : ls.size = c.maxLocals)
    (d0 : decode cc pc = .ok (.new ik, 3)) (d3 : decode cc (pc + 3) = .ok (.dup, 1)) (d4 : decode cc (pc + 4) = .ok (.ldc_w is, 3)) (d7 : decode cc (pc + 7) = .ok (.invokespecial ic, 3)) (d10 : decode cc (pc + 10) = .ok (.athrow, 1))
    (hout : ∀ x ∈ c.exceptionTable.toList, covers x (pc + 10) = false)
    (hRframes : names.length + 3 < R.frames) (hRlocals : (rest.map fun v => v.category).sum + (13 * (names.length + 1) + 43) ≤ R.locals) (hRcells : cells + 1 ≤ R.cells) (hRslots : slots + 6 ≤ R.slots) (hlocks : meth.locks = false)
    (hx : ∀ t : State, s.vm.Alike t.vm → H.size ≤ t.heap.size → (∀ q : Nat, q < H.size → t.heap[q]? = H[q]?) → XC cls s t)
    (hf : ∀ z ∈ locs, free z.base) (hc : cells + 1 ≤ mc) (hs : slots + 6 ≤ ms) :
    W p l e R s m args below meth c H locs cells slots (vx_MQ below Qc XC args s mc ms free) (F0 m pc ls rest) := by
  intro T hT X
  have htr : e.platform.stackTraces = false := (show e.platform.stackTraces = l.stackTraces by rw [X.admits.platform]).trans hl
  have Y := vx_rebase X (R' := { frames := R.frames, locals := R.locals, cells := 1, slots := 6 }) (Nat.le_refl _) (Nat.le_refl _) hRcells hRslots
  obtain ⟨s', hA⟩ : ∃ z, z = (T.setVm s.vm).setFrames (.invoking m args :: below) := ⟨_, rfl⟩
  rw [← hA] at Y
  have hvm : s'.vm = s.vm := by rw [hA]; rfl
  have hhp : s'.heap = H := by rw [hA]; exact hT
  have hW0 : s.WarmedH s'.vm := by rw [hvm]; exact State.WarmedH.refl s
  have hat' : ∀ w ∈ vx_atS own ic cls names, w.before args s' = true := fun w hw => vx_ot_at hW0 hvm.symm (hgood w (List.mem_cons_of_mem _ (List.mem_cons_of_mem _ hw))) (hat w hw)
  have hk' : (Cond.classLink own ik cls).before args s' = true := vx_ot_at hW0 hvm.symm (hgood _ List.mem_cons_self) hk
  have hini' : (Cond.initialized cls).before args s' = true := vx_ot_at hW0 hvm.symm (hgood _ (List.mem_cons_of_mem _ List.mem_cons_self)) hini
  have hU' : vx_Zq Bundle.tN "UNASSIGNED_STACK" Bundle.steD A s' s'.heap := by rw [hhp]; exact vx_Zq.moved hW0.alike (hU.kept hS.2.1)
  have hN' : vx_Zq Bundle.tN "SUPPRESSED_SENTINEL" Bundle.listD A s' s'.heap := by rw [hhp]; exact vx_Zq.moved hW0.alike (hN.kept hS.2.1)
  have h : ∀ w ∈ Bundle.ownAtoms own ic cls names, w.before args s' = true := vx_own hat' (vx_isRefq hU'.1) (vx_isRefq hN'.1) hU'.2.word hN'.2.word
  have hown' : s'.vm.findClass own = some m.cls := by rw [hvm]; exact hown
  have hins : (Cond.instantiable cls 6).before args s' = true := h _ (by simp [Bundle.ownAtoms])
  obtain ⟨vm₁, cX, kX, hfX, hkX, -, -, X₁, st1⟩ := Y.newCold hexec (own := own) (C := cls) (index := ik) (n := 6) hown' hk' hins hini'
    (g := F0 m pc ls rest) rfl (by rw [hb]; exact d0) (Nat.le_refl _) (Nat.le_refl _)
  generalize hT1 : (T.setVm vm₁).pushCell { cls := cX, slots := kX.instanceTypes.map defaultValue, vm := .none } = T1 at X₁ st1
  have hcat : (Value.ref T.heap.size).category = 1 := rfl
  have hcellA : T1.heap[T.heap.size]? = some (freshCell cX kX) := by rw [← hT1]; exact State.heap_pushCell_size _ _
  have d3' : decode c.code (pc + 3) = .ok (.dup, 1) := by rw [hb]; exact d3
  have d4' : decode c.code (pc + 4) = .ok (.ldc_w is, 3) := by rw [hb]; exact d4
  have hstr' : vk_R own is text sa s' := vk_R.warm hW0 hstr
  obtain ⟨U, hsteps, hrun, hend, hW, hsame, ce, hce, hO⟩ := X₁.ctorThrowS hexec htr (own := own) (cls := cls) (names := names) (ic := ic) hown' hcls hnames h (fun x hx => nomatch hx) hfX hkX hcellA (by rw [hhp, hT]; exact Nat.le_refl _) (msg := .ref sa) rfl
    (g := { method := m, pc := pc + 7, locals := ls, stack := .ref sa :: .ref T.heap.size :: .ref T.heap.size :: rest, locked := none }) rfl hsize rfl rfl (rest := rest) rfl
    (by rw [hb]; exact d7) (by rw [hb]; exact d10) hout hRframes (by simp only [List.map_cons, List.sum_cons, hcat]; omega) hlocks
  obtain ⟨f1, f2⟩ := vx_frame hsame
  rw [hhp] at f1 f2
  have hWs : s.WarmedH U.vm := State.WarmedH.trans hW0 hW
  have hcl : s.vm.findClass cls = some ce.cls := by
    have h9 := hO.cls
    rw [hvm] at h9
    exact h9
  have hall : s.sameButNew ({ U with vm := s.vm } : State) locs mc ms := by
    subst hA
    obtain ⟨e1, e2⟩ := hsame
    rw [State.setFrames_setFrames] at e1
    have h2 : (T.setVm s.vm).sameButNew ({ U with vm := s.vm } : State) [] (0 + 1) (0 + 6) := ⟨e1, e2⟩
    have h3 := X.same.trans h2
    rw [List.append_nil] at h3
    exact h3.mono hc hs
  refine ⟨U, ?_, .threw T.heap.size, hrun, hend, Or.inr ⟨T.heap.size, rfl, cls, ce, locs, hx U hWs.alike f1 (fun q hq => f2 q hq (fun z hz => nomatch hz)), hce, hO.vm, hcl, hWs, hall, hf⟩⟩
  refine st1 _ ?_
  show Steps p.tables e below (T1.setTop { method := m, pc := pc + 3, locals := ls, stack := .ref T.heap.size :: rest, locked := none }) _
  jvm_step X₁.here [X₁.here.top, hexec, d3', Value.category]
  exact X₁.ldcStringW hexec (own := own) (text := text) (index := is) (a := sa) hown' hstr'.1 hstr'.2
    (g := { method := m, pc := pc + 4, locals := ls, stack := .ref T.heap.size :: .ref T.heap.size :: rest, locked := none }) rfl d4' _ hsteps
end Ends
section Bodies
variable {l : Launch}
theorem vx_ofW {y : MethodName} {ws ws' : List Cond} {rm : Room} {Pc : Array Value → State → Prop} {Qc : Array Value → State → Outcome → State → Prop} {XC : String → State → State → Prop} {mc ms : Nat} {free : Addr → Prop} {cc : ByteArray} {maxL : Nat} {ret : Option FieldType}
    (hy : plainName y.cls = true) (hw : ws = Cond.code y cc maxL ret :: ws')
    (body : ∀ p e s m args below meth c s₁, BodyLoose p l y (headSpec ws rm) cc maxL ret e s m args below meth c s₁ → c.maxLocals = maxL → (∀ x ∈ c.exceptionTable.toList, False) → Pc args s →
      W p l e (headSpec ws rm).room s m args below meth c s.heap [] 0 0 (vx_MQ below Qc XC args s mc ms free) (entryFrame m args maxL)) : vx_Met l y ws rm Pc Qc XC mc ms free := by
  refine MetFree.of_bodyS (code := cc) (maxLocals := maxL) (ret := ret) hy ?_ ?_
  · intro args s m h hn
    obtain ⟨meth, c, h1, h2, h3, h4, h5, h6, -, -⟩ := Cond.code_spec hn (atoms_spec (ws := ws) h _ (by rw [hw]; exact List.mem_cons_self))
    exact ⟨meth, c, h1, h2, h3, h4, h5, h6⟩
  · intro p e s m args below meth c s₁ B hml hP _
    have hh0 : s₁.heap = s.heap := by rw [B.state]; rfl
    have ht : ∀ x ∈ c.exceptionTable.toList, False := by
      obtain ⟨meth9, c9, h1, h2, -, -, -, -, h7, -⟩ := Cond.code_spec B.named (atoms_spec (ws := ws) B.pre _ (by rw [hw]; exact List.mem_cons_self))
      cases Option.some.inj (h1.symm.trans B.method)
      cases Option.some.inj (h2.symm.trans (Stand.of_body B).code)
      intro x hx
      rw [Array.isEmpty_iff.mp h7] at hx
      cases hx
    obtain ⟨t, a1, o, b1, b2, b3⟩ := body p e s m args below meth c s₁ B hml ht hP s₁ hh0 (Stand.of_body B)
    exact ⟨t, o, a1, b1, b2, b3⟩
/-- the table of a body with handlers -/
theorem vx_table {p : Program} {x y : MethodName} {S : Spec} {cc bytes : ByteArray} {maxL maxL' : Nat} {ret ret' : Option FieldType} {e : Env} {s s₁ : State} {m : MethodId} {args : Array Value} {below : List Frame} {meth : Method} {c : Code} {hh : List (Nat × Nat × Nat × Nat)}
    (B : BodyLoose p l y S cc maxL ret e s m args below meth c s₁) (h : (Cond.codeWith y bytes maxL' ret' hh).before args s = true) : c.exceptionTable.toList = tableOf hh := by
  obtain ⟨m9, meth9, c9, hn9, h1, h2, -, -, h6, -⟩ := Cond.codeWith_spec h
  cases Option.some.inj (hn9.symm.trans B.named)
  cases Option.some.inj (h1.symm.trans B.method)
  cases Option.some.inj (h2.symm.trans (Stand.of_body B).code)
  rw [← h6, table_eq]
end Bodies
end VXA
/-! ===== END ===== -/
/-! ===== BEGIN a static call of a method with an exception table ===== -/
section VXS
variable {p : Program} {l : Launch} {e : Env} {R : Room} {s : State} {m : MethodId} {args : Array Value} {below : List Frame} {meth : Method} {c : Code} {T : State} {H : Heap} {locs : List Loc} {cells slots : Nat}
abbrev vx_CSW (R : Room) (s : State) (args : Array Value) (own : String) (index : Nat) (y : MethodName) (bytes : ByteArray) (maxL : Nat) (ret : Option FieldType) (hh : List (Nat × Nat × Nat × Nat)) (ws : List Cond) (rm : Room) (mc ms n : Nat) : Prop :=
  (rm.cells = mc ∧ rm.slots = ms ∧ rm.frames + 1 ≤ R.frames ∧ 8 + (maxL + 11) + rm.locals ≤ R.locals ∧ (∀ w ∈ ws, ∀ (a' : Array Value) (U : State), s.WarmedH U.vm → w.before a' U = true) ∧ Cond.codeWith y bytes maxL ret hh ∈ ws) ∧
  (Cond.codeWith y bytes maxL ret hh).before args s = true ∧ (Cond.initialized y.cls).before args s = true ∧ (y.cls ≠ "java/lang/invoke/MethodHandle" ∧ y.cls ≠ "java/lang/invoke/VarHandle") ∧
  (∀ sig, parseMethodDescriptor y.desc = some sig → n = sig.parameters.length) ∧ (Cond.methodLink own index y).before args s = true ∧ (Cond.static y).before args s = true
theorem vx_cwSW {own : String} {index maxL mc ms : Nat} {y : MethodName} {bytes : ByteArray} {ret : Option FieldType} {hh : List (Nat × Nat × Nat × Nat)} {Ts ws ws' : List Cond} {rm : Room} (n : Nat) (ht : ∀ w ∈ Ts, w.before args s = true) (hT : GoodIn Ts (va_wsS own index y ws)) (hw : ws = Cond.codeWith y bytes maxL ret hh :: ws') (hrc : rm.cells = mc) (hrs : rm.slots = ms)
    (hd : y.cls ≠ "java/lang/invoke/MethodHandle" ∧ y.cls ≠ "java/lang/invoke/VarHandle" ∧ (parseMethodDescriptor y.desc).map (fun d => d.parameters.length) = some n) (hR : rm.frames + 1 ≤ R.frames ∧ 8 + (maxL + 11) + rm.locals ≤ R.locals) :
    vx_CSW R s args own index y bytes maxL ret hh ws rm mc ms n := by
  have ok : ∀ w ∈ va_wsS own index y ws, w.before args s = true := fun w h => ht w (hT w h).1
  have hG : GoodIn Ts ws := fun w h => hT w (by unfold va_wsS; exact List.mem_append_right _ h)
  have hc : Cond.codeWith y bytes maxL ret hh ∈ ws := by rw [hw]; exact List.mem_cons_self
  refine ⟨⟨hrc, hrs, hR.1, hR.2, pay_in ht hG, hc⟩, ht _ (hG _ hc).1, ok _ (by simp [va_wsS]), ⟨hd.1, hd.2.1⟩, fun sig h => ?_, ok _ (by simp [va_wsS]), ok _ (by simp [va_wsS])⟩
  have h2 := hd.2.2
  rw [h] at h2
  exact (Option.some.inj h2).symm
theorem vx_callSW (X : Stand p l e R s m args below meth c T locs cells slots) (hexec : p.tables.exec = Jvm.exec) {own : String} {index : Nat} {y : MethodName} {bytes : ByteArray} {maxL : Nat} {ret : Option FieldType} {hh : List (Nat × Nat × Nat × Nat)}
    (hown : s.vm.findClass own = some m.cls) (hlink : (Cond.methodLink own index y).before args s = true) (hstat : (Cond.static y).before args s = true) (hinit : (Cond.initialized y.cls).before args s = true)
    (hcode : (Cond.codeWith y bytes maxL ret hh).before args s = true) (hy : y.cls ≠ "java/lang/invoke/MethodHandle" ∧ y.cls ≠ "java/lang/invoke/VarHandle")
    {W9 : Nat} {Pre : Pt → Array Value → Prop} {Post : Pt → Array Value → Option Value → Pt → Prop} (hK : Back l R p e below s args y 3 W9 Pre Post)
    {g : JFrame} (hg : g.method = m) (hsize : g.locals.size = c.maxLocals) {argsL rest : List Value} (hlen : ∀ sig, parseMethodDescriptor y.desc = some sig → argsL.length = sig.parameters.length)
    (hstack : g.stack = argsL.reverse ++ rest) (hW : 2 * g.monitorRoom + (rest.map fun v => v.category).sum ≤ W9) (hdg : decode c.code g.pc = .ok (.invokestatic index, 3))
    (hpre : ∀ vm₁, s.WarmedH vm₁ → Pre ⟨T.setVm vm₁, locs, cells, slots⟩ argsL.toArray) :
    ∃ (v : Option Value) (vm₁ : Vm) (B : Pt), s.WarmedH vm₁ ∧ Stand p l e R s m args below meth c B.U B.locs B.cells B.slots ∧ Post ⟨T.setVm vm₁, locs, cells, slots⟩ argsL.toArray v B ∧
      ∀ target, Steps p.tables e below (B.U.setTop { g with pc := g.pc + 3, stack := v.toList ++ rest }) target → Steps p.tables e below (T.setTop g) target := by
  obtain ⟨mk, methM, cM, hnamed, hmethM, -, -, -, -, -, -, hsigM⟩ := Cond.codeWith_spec hcode
  have hstatic : methM.isStatic = true := Cond.static_spec hnamed hmethM hstat
  obtain ⟨kP, hkP, -⟩ := className_of_methodNamed hnamed
  have hinitP : kP.init = .initialized := Cond.initialized_spec (findClass_of_methodNamed hnamed) hkP hinit
  obtain ⟨vm₁, X₁, hstep₁⟩ := X.invokestatic hexec hown hlink hnamed hmethM hstatic hkP hinitP hy (g := g) hg (argsL := argsL) (rest := rest) (hlen _ hsigM) hstack hdg
  obtain ⟨v, B, X', hpost, hsteps⟩ := hK m meth c ⟨T.setVm vm₁, locs, cells, slots⟩ { g with stack := rest } (.invokestatic index) mk argsL.toArray X₁ hg hsize hdg hW (X₁.named hnamed) (hpre vm₁ X₁.warmed)
  exact ⟨v, vm₁, B, X₁.warmed, X', hpost, fun target h => hstep₁ _ fun acts => by rw [doInvoke_state]; exact hsteps.trans h⟩
theorem vx_runSW {y : MethodName} {bytes cc : ByteArray} {maxL nL mc ms n index : Nat} {ret : Option FieldType} {hh : List (Nat × Nat × Nat × Nat)} {ws : List Cond} {rm : Room} {Pc : Array Value → State → Prop} {Qc : Array Value → State → Outcome → State → Prop} {free : Addr → Prop} {Ts : List Cond} {own : String} {As rest : List Value} {g : JFrame}
    (S : CallFix p m c cc nL s args Ts own) (hM : Met l y ws rm Pc Qc mc ms free) (cw : vx_CSW R s args own index y bytes maxL ret hh ws rm mc ms n) (hp : PreS s H Pc As)
    (hg : g.method = m) (hn : As.length = n) (hsize : g.locals.size = nL) (hstack : g.stack = As.reverse ++ rest) (hW : 2 * g.monitorRoom + (rest.map fun v => v.category).sum ≤ 8) (hdg : decode cc g.pc = .ok (.invokestatic index, 3)) (hf : cells + mc ≤ R.cells ∧ slots + ms ≤ R.slots) :
    va_Run p l e R s m args below meth c H locs cells slots mc ms g rest (Qc As.toArray) (free) := by
  obtain ⟨⟨hrc, hrs, hfr, hlo, hws, hcw⟩, hcode, hini, hy, hlen, hl, hstt⟩ := cw
  have hK : Back l R p e below s args y 3 8 (PreOf R mc ms Pc) (PostOf Qc mc ms free) := va_backW (hh := hh) (bytes := bytes) (maxL := maxL) (ret := ret) hM hp.1 hrc hrs hfr hlo hws hcw (fun a' U hW => word_at hW (Or.inl (by first | rfl | simp [Cond.onTables, Cond.keeps, Cond.steady])) hini)
  obtain ⟨hx, hb, hml, ho, -⟩ := S
  intro T hT X
  obtain ⟨v, vm₁, ⟨U', l2, c2, s2⟩, hW₁, X', ⟨g', mk, t, L, e1, e2, hq, h1, hL, h2, h3⟩, st⟩ := vx_callSW X hx (hh := hh) (bytes := bytes) (maxL := maxL) (ret := ret) ho hl hstt hini hcode hy hK hg (hsize.trans hml.symm) (argsL := As) (rest := rest) (fun sig h => hn.trans (hlen sig h)) hstack hW (by rw [hb]; exact hdg)
    (fun vm₁ hW₁ => ⟨hf.1, hf.2, hp.2 (T.setVm vm₁) hT hW₁⟩)
  dsimp only [Pt.U, Pt.locs, Pt.cells, Pt.slots] at X' e1 e2 h1 h2 h3 st
  subst h1; subst h2; subst h3
  exact ⟨v, (T.setVm vm₁).calling g' mk As.toArray, t, U', L, hT, X', hL, e1, e2, hq, st⟩
/-- not caught here, past rows that name other classes: it goes on to the caller -/
theorem vx_outP {p : Program} {l : Launch} {e : Env} {R : Room} {s : State} {m : MethodId} {args : Array Value} {below : List Frame} {meth : Method} {c : Code} {H : Heap} {locs : List Loc} {cells slots : Nat} {free : Addr → Prop} {ls : Array Slot} {rest : List Value} {Qc : Array Value → State → Outcome → State → Prop} {XC : String → State → State → Prop}
    {pc : Nat} {own E : String} {ce : Cell} {q : Addr} {mc ms : Nat} (hown : s.vm.findClass own = some m.cls) (hlocks : meth.locks = false)
    (hpass : ∀ z ∈ c.exceptionTable.toList, covers z pc = false ∨ (z.catchType ≠ 0 ∧ ∃ nm : String, (Cond.classLink own z.catchType nm).before args s = true ∧ va_Nc E nm s)) (hcell : H[q]? = some ce) (hv : ce.vm = .none) (hcl : s.vm.findClass E = some ce.cls)
    (hx : ∀ t : State, t.heap = H → s.vm.Alike t.vm → XC E s t) (hf : ∀ z ∈ locs, free z.base) (hc : cells ≤ mc) (hs : slots ≤ ms) :
    vx_W p l e R s m args below meth c H locs cells slots (vx_MQ below Qc XC args s mc ms free) (F0 m pc ls rest) q := by
  intro T hT X
  have hpl : e.platform.magicAccessors = ({} : Platform).magicAccessors := by rw [X.admits.platform]
  obtain ⟨vm', hW', X', st⟩ := X.outThrough hlocks q (g := F0 m pc ls rest) rfl rfl rfl (cell := ce) (by rw [hT]; exact hcell) (by rw [hv]; rfl)
    (by obtain ⟨k9, h9, -⟩ := Vm.findClass_spec hcl; exact ⟨k9, h9⟩) (fun z hz => by
      rcases hpass z hz with h | ⟨hz0, nm, hl1, hn1⟩
      · exact Or.inl h
      · obtain ⟨c6, hc6, hcl6⟩ := Cond.classLink_spec hown hl1 e.platform hpl
        obtain ⟨a8, b8, h1, h2, h3⟩ := hn1
        cases Option.some.inj (h1.symm.trans hcl)
        cases Option.some.inj (h2.symm.trans hc6)
        exact Or.inr ⟨hz0, _, hcl6, h3⟩)
  obtain ⟨g₀, hfr⟩ := X'.frames_eq
  have hcell9 : ((T.setVm vm').setFrames (.throwing q :: below)).heap[q]? = some ce := by
    show T.heap[q]? = some ce
    rw [hT]; exact hcell
  have hend : Ended ((T.setVm vm').setFrames (.throwing q :: below)) below (.threw q) := State.frames_setFrames _ (State.cur_lt_of_frames hfr)
  refine ⟨(T.setVm vm').setFrames (.throwing q :: below), ?_, .threw q, X'.here.running, hend, Or.inr ⟨q, rfl, E, ce, locs, hx _ hT (X'.ends _).1.alike, hcell9, hv, hcl, (X'.ends _).1, (X'.ends _).2.mono hc hs, hf⟩⟩
  rw [X.pushThrowing_eq]
  exact st
/-- a thing of a world lies in the heap -/
theorem vx_lt {D : va_G} {cl : List vw_C} {ws : va_W} {H1 : Heap} (h : va_P D cl ws H1) {k : Nat} {q : Nat × va_E} (hk : ws[k]? = some q) : q.1 < H1.size := (h k q hk).lt
end VXS
/-! ===== END ===== -/
/-! ===== BEGIN methods with a table of their own: called by a name, returning or throwing ===== -/
section VXH
/-! vx_backW, vx_callVX, vx_callSX, vx_callVW, vx_runVW, vx_runVX, vx_runSX, vx_ofWH follow the same proofs as their sisters above (Free/Laws.lean, Shelf42/LK1.lean); vx_outP calls Shelf42/NT130.lean (outThrough). -/
section
variable {l : Launch} {R : Room} {p : Program} {e : Env} {below : List Frame} {s : State} {sargs : Array Value} {y : MethodName} {len W9 : Nat}
theorem vx_backW {ws : List Cond} {rm : Room} {Pc : Array Value → State → Prop} {Qc : Array Value → State → Outcome → State → Prop} {XC : String → State → State → Prop} {mc ms : Nat} {free : Addr → Prop} {bytes : ByteArray} {maxL : Nat} {ret : Option FieldType} {hh : List (Nat × Nat × Nat × Nat)}
    (hM : vx_Met l y ws rm Pc Qc XC mc ms free) (hblind : FrameBlind Pc) (hrc : rm.cells = mc) (hrs : rm.slots = ms)
    (hframes : rm.frames + 1 ≤ R.frames) (hlocals : W9 + (maxL + 11) + rm.locals ≤ R.locals)
    (hws : ∀ w ∈ ws, ∀ a' U, s.WarmedH U.vm → w.before a' U = true) (hcode : Cond.codeWith y bytes maxL ret hh ∈ ws) (hinit : ∀ a' U, s.WarmedH U.vm → (Cond.initialized y.cls).before a' U = true) :
    vx_Back l R p e below s sargs y len W9 (PreOf R mc ms Pc) (PostOf Qc mc ms free) (vx_Post XC mc ms free) := by
  intro m meth c A g ig mk a X hg hsize hdg hW hn hp
  have h1 : (headSpec ws rm).pre.before a A.U = true := atoms_intro fun w hw => hws w hw _ _ X.warmed
  have h2 : (Cond.codeWith y bytes maxL ret hh).before a A.U = true := hws _ hcode _ _ X.warmed
  have h3 : (Cond.initialized y.cls).before a A.U = true := hinit _ _ X.warmed
  have h4 : A.cells + (headSpec ws rm).room.cells ≤ R.cells := by rw [show (headSpec ws rm).room.cells = mc from hrc]; exact hp.1
  have h5 : A.slots + (headSpec ws rm).room.slots ≤ R.slots := by rw [show (headSpec ws rm).room.slots = ms from hrs]; exact hp.2.1
  have hPc : Pc a (A.U.calling g mk a) := hblind _ _ _ _ hp.2.2
  obtain ⟨U, Ls, c0, s0⟩ := A
  dsimp only [Pt.U, Pt.locs, Pt.cells, Pt.slots] at h1 h2 h3 h4 h5 X hn hPc ⊢
  obtain ⟨m9, methY, cY, hn9, hmY, hcY, -, hlY, -⟩ := Cond.codeWith_spec h2
  cases Option.some.inj (hn9.symm.trans hn)
  obtain ⟨kY, hkY, -⟩ := className_of_methodNamed hn
  have hinitY : kY.init = .initialized := Cond.initialized_spec (findClass_of_methodNamed hn) hkY h3
  have h : At U g.method c below := by rw [hg]; exact X.here
  have hlocals9 : W9 + (maxL + 11) + (headSpec ws rm).room.locals ≤ R.locals := hlocals
  have happ : (headSpec ws rm).appliesLoose y e.platform (U.calling g mk a) = true :=
    Spec.appliesLoose_calling (g := g) h hdg hn hkY hinitY
      (X.room_calling (g := g) (R' := (headSpec ws rm).room) hsize hmY hcY hframes (by rw [hlY]; omega) h4 h5) h1
  obtain ⟨mid, hmid⟩ := h.above
  have hfr : (U.setTop g).frames = (.java g :: mid) ++ below := by rw [State.frames_setTop' g h.top, hmid]; rfl
  obtain ⟨o, s₂, hsteps, -, hend, hq⟩ := Steps.callFree hM p X.admits X.cas X.clock (acts := []) hfr happ hPc trivial
  have hq' : vx_Q Qc XC mc ms free a (U.calling g mk a) o s₂ := hq
  rw [State.frames_setTop' g h.top] at hend
  obtain ⟨g₀, hg0⟩ := Option.isSome_iff_exists.mp h.top
  obtain ⟨r, hr⟩ := State.topJava?_eq_some.mp hg0
  have hr' : (({ U with heap := s₂.heap, slotsUsed := s₂.slotsUsed } : State).setVm s₂.vm).frames = .java g₀ :: r := hr
  rcases hq' with ⟨hqc, L, hfe, hL⟩ | ⟨q, rfl, E, ce, L, hx, hce, hcv, hcl, hW₂, hsm, hL⟩
  · obtain ⟨⟨v, rfl⟩, hW₂, e2, q2, q3, q4, q5, q6⟩ := id hfe
    have e3 : s₂ = ({ (U.calling g mk a).setFrames s₂.frames with heap := s₂.heap, slotsUsed := s₂.slotsUsed } : State).setVm s₂.vm := by
      have : s₂ = ({ s₂ with vm := (U.calling g mk a).vm } : State).setVm s₂.vm := rfl
      rw [e2] at this
      exact this
    obtain ⟨c₂, i₂, len₂, hc₂, hd₂, hf₂⟩ := hend
    have hW' : U.WarmedH s₂.vm := hW₂
    have hcc : c₂ = c := by
      have h1 : s₂.code? g.method = U.code? g.method := by
        rw [State.code?_eq, State.code?_eq, hW'.alike.method?]
      exact Option.some.inj (hc₂.symm.trans (h1.trans h.code))
    subst hcc
    have hlen : len₂ = len := by rw [hdg] at hd₂; cases hd₂; rfl
    subst hlen
    have hs₂ : s₂ = (({ U with heap := s₂.heap, slotsUsed := s₂.slotsUsed } : State).setVm s₂.vm).setTop { g with pc := g.pc + len₂, stack := v.toList ++ g.stack } := by
      refine e3.trans ?_
      rw [hf₂, State.calling_eq h.top, State.setFrames_setFrames, State.setTop_of_frames _ hr', hr]
      rfl
    have hsame : U.sameButNew ({ U with heap := s₂.heap, slotsUsed := s₂.slotsUsed } : State) L mc ms := by
      refine ⟨?_, q2, q3, q4, q5, q6⟩
      obtain ⟨t, ht, -⟩ := State.frames_cons hr
      show ({ U with heap := s₂.heap, slotsUsed := s₂.slotsUsed } : State) = { U.setFrames U.frames with heap := s₂.heap, slotsUsed := s₂.slotsUsed }
      rw [State.setFrames_self ht]
    subst hg
    refine Or.inl ⟨v, ⟨(({ U with heap := s₂.heap, slotsUsed := s₂.slotsUsed } : State).setVm s₂.vm), Ls ++ L, c0 + mc, s0 + ms⟩,
      ⟨X.admits, X.cas, X.clock, X.frames, X.room, X.hears, X.method, X.code, (X.here.setHeapUsed s₂.heap s₂.slotsUsed).setVm hW'.alike, X.tail, State.WarmedH.trans X.warmed hW', X.limits, X.bytes, X.same.trans (hsame.setVm s.vm)⟩,
      ⟨g, mk, s₂, L, rfl, rfl, hqc, rfl, hL, rfl, rfl⟩, ?_⟩
    show Steps p.tables e below _ ((({ U with heap := s₂.heap, slotsUsed := s₂.slotsUsed } : State).setVm s₂.vm).setTop { g with pc := g.pc + len₂, stack := v.toList ++ g.stack })
    rw [← hs₂]
    exact hsteps
  · obtain ⟨e2, q2, q3, q4, q5, q6⟩ := id hsm
    have e3 : s₂ = ({ (U.calling g mk a).setFrames s₂.frames with heap := s₂.heap, slotsUsed := s₂.slotsUsed } : State).setVm s₂.vm := by
      have : s₂ = ({ s₂ with vm := (U.calling g mk a).vm } : State).setVm s₂.vm := rfl
      rw [e2] at this
      exact this
    have hf₂ : s₂.frames = .throwing q :: .java g :: U.frames.tail := hend
    have hW' : U.WarmedH s₂.vm := hW₂
    have hs₂ : s₂ = ((({ U with heap := s₂.heap, slotsUsed := s₂.slotsUsed } : State).setVm s₂.vm).setTop g).pushFrame (.throwing q) := by
      refine e3.trans ?_
      rw [hf₂, State.calling_eq h.top, State.setFrames_setFrames, State.pushFrame, State.frames_setTop _ hr', State.setTop_of_frames _ hr', State.setFrames_setFrames, hr]
      rfl
    have hsame : U.sameButNew ({ U with heap := s₂.heap, slotsUsed := s₂.slotsUsed } : State) L mc ms := by
      refine ⟨?_, q2, q3, q4, q5, q6⟩
      obtain ⟨t, ht, -⟩ := State.frames_cons hr
      show ({ U with heap := s₂.heap, slotsUsed := s₂.slotsUsed } : State) = { U.setFrames U.frames with heap := s₂.heap, slotsUsed := s₂.slotsUsed }
      rw [State.setFrames_self ht]
    subst hg
    refine Or.inr ⟨q, ⟨(({ U with heap := s₂.heap, slotsUsed := s₂.slotsUsed } : State).setVm s₂.vm), Ls ++ L, c0 + mc, s0 + ms⟩,
      ⟨X.admits, X.cas, X.clock, X.frames, X.room, X.hears, X.method, X.code, (X.here.setHeapUsed s₂.heap s₂.slotsUsed).setVm hW'.alike, X.tail, State.WarmedH.trans X.warmed hW', X.limits, X.bytes, X.same.trans (hsame.setVm s.vm)⟩,
      ⟨g, mk, s₂, L, E, ce, rfl, rfl, hx, hce, hcv, hcl, rfl, hL, rfl, rfl⟩, ?_⟩
    show Steps p.tables e below _ (((({ U with heap := s₂.heap, slotsUsed := s₂.slotsUsed } : State).setVm s₂.vm).setTop g).pushFrame (.throwing q))
    rw [← hs₂]
    exact hsteps
end
variable {p : Program} {l : Launch} {e : Env} {R : Room} {s : State} {m : MethodId} {args : Array Value} {below : List Frame} {meth : Method} {c : Code} {T : State} {H : Heap} {locs : List Loc} {cells slots : Nat}
theorem vx_callVX (X : Stand p l e R s m args below meth c T locs cells slots) (hexec : p.tables.exec = Jvm.exec) {own C : String} {index : Nat} {y : MethodName} {bytes : ByteArray} {maxL : Nat} {ret : Option FieldType} {hh : List (Nat × Nat × Nat × Nat)}
    (hown : s.vm.findClass own = some m.cls) (hlink : (Cond.methodLink own index y).before args s = true) (hinst : (Cond.instanceMethod y).before args s = true) (hsel : (Cond.selects C y y).before args s = true)
    (hcode : (Cond.codeWith y bytes maxL ret hh).before args s = true) (hy : y.cls ≠ "java/lang/invoke/MethodHandle" ∧ y.cls ≠ "java/lang/invoke/VarHandle")
    {W9 : Nat} {Pre : Pt → Array Value → Prop} {Post : Pt → Array Value → Option Value → Pt → Prop} {PostX : Pt → Array Value → Addr → Pt → Prop} (hK : vx_Back l R p e below s args y 3 W9 Pre Post PostX)
    {b : Addr} {cellB : Cell} (hcell : T.heap[b]? = some cellB) (hobj : cellB.vm.isStatics = false) (hcls : s.vm.findClass C = some cellB.cls)
    {g : JFrame} (hg : g.method = m) (hsize : g.locals.size = c.maxLocals) {argsL rest : List Value} (hlen : ∀ sig, parseMethodDescriptor y.desc = some sig → argsL.length = sig.parameters.length)
    (hstack : g.stack = argsL.reverse ++ .ref b :: rest) (hW : 2 * g.monitorRoom + (rest.map fun v => v.category).sum ≤ W9) (hdg : decode c.code g.pc = .ok (.invokevirtual index, 3))
    (hpre : ∀ vm₁, s.WarmedH vm₁ → Pre ⟨T.setVm vm₁, locs, cells, slots⟩ (Value.ref b :: argsL).toArray) :
    (∃ (v : Option Value) (vm₁ : Vm) (B : Pt), s.WarmedH vm₁ ∧ Stand p l e R s m args below meth c B.U B.locs B.cells B.slots ∧ Post ⟨T.setVm vm₁, locs, cells, slots⟩ (Value.ref b :: argsL).toArray v B ∧
      ∀ target, Steps p.tables e below (B.U.setTop { g with pc := g.pc + 3, stack := v.toList ++ rest }) target → Steps p.tables e below (T.setTop g) target) ∨
    (∃ (q : Addr) (vm₁ : Vm) (B : Pt), s.WarmedH vm₁ ∧ Stand p l e R s m args below meth c B.U B.locs B.cells B.slots ∧ PostX ⟨T.setVm vm₁, locs, cells, slots⟩ (Value.ref b :: argsL).toArray q B ∧
      Steps p.tables e below (T.setTop g) ((B.U.setTop { g with stack := rest }).pushFrame (.throwing q))) := by
  obtain ⟨mk, methM, hnamed, hmethM, hstM, habM⟩ := Cond.instanceMethod_spec hinst
  obtain ⟨m8, methM', cM, hn8, hmethM', -, -, -, -, -, -, hsigM⟩ := Cond.codeWith_spec hcode
  cases Option.some.inj (hn8.symm.trans hnamed)
  cases hmethM.symm.trans hmethM'
  obtain ⟨c2, r2, m2, q1, q2, q3, q4, kP, hkP, hkPi⟩ := Cond.selects_spec hsel
  cases hcls.symm.trans q1
  cases (State.methodFound?_of_named hnamed hy).symm.trans q2
  cases hnamed.symm.trans q3
  have hselP : selectMethod e.platform s.vm cellB.cls mk = .method mk := by rw [Launch.admits_selectMethod X.admits]; exact q4
  obtain ⟨vm₁, X₁, hstep₁⟩ := X.invokevirtual hexec hown hlink hnamed hmethM hstM hkP hkPi hy (a := b) (cell := cellB) hcell
    (fun z h => by rw [h] at hobj; cases hobj) hselP hmethM habM hkP hkPi (g := g) hg (argsL := argsL) (rest := rest) (hlen _ hsigM) hstack hdg
  rcases hK m meth c ⟨T.setVm vm₁, locs, cells, slots⟩ { g with stack := rest } (.invokevirtual index) mk (Value.ref b :: argsL).toArray X₁ hg hsize hdg hW (X₁.named hnamed) (hpre vm₁ X₁.warmed) with ⟨v, B, X', hpost, hsteps⟩ | ⟨q, B, X', hpost, hsteps⟩
  · exact Or.inl ⟨v, vm₁, B, X₁.warmed, X', hpost, fun target h => hstep₁ _ fun acts => by rw [doInvoke_state]; exact hsteps.trans h⟩
  · exact Or.inr ⟨q, vm₁, B, X₁.warmed, X', hpost, hstep₁ _ fun acts => by rw [doInvoke_state]; exact hsteps⟩
theorem vx_callSX (X : Stand p l e R s m args below meth c T locs cells slots) (hexec : p.tables.exec = Jvm.exec) {own : String} {index : Nat} {y : MethodName} {bytes : ByteArray} {maxL : Nat} {ret : Option FieldType} {hh : List (Nat × Nat × Nat × Nat)}
    (hown : s.vm.findClass own = some m.cls) (hlink : (Cond.methodLink own index y).before args s = true) (hstat : (Cond.static y).before args s = true) (hinit : (Cond.initialized y.cls).before args s = true)
    (hcode : (Cond.codeWith y bytes maxL ret hh).before args s = true) (hy : y.cls ≠ "java/lang/invoke/MethodHandle" ∧ y.cls ≠ "java/lang/invoke/VarHandle")
    {W9 : Nat} {Pre : Pt → Array Value → Prop} {Post : Pt → Array Value → Option Value → Pt → Prop} {PostX : Pt → Array Value → Addr → Pt → Prop} (hK : vx_Back l R p e below s args y 3 W9 Pre Post PostX)
    {g : JFrame} (hg : g.method = m) (hsize : g.locals.size = c.maxLocals) {argsL rest : List Value} (hlen : ∀ sig, parseMethodDescriptor y.desc = some sig → argsL.length = sig.parameters.length)
    (hstack : g.stack = argsL.reverse ++ rest) (hW : 2 * g.monitorRoom + (rest.map fun v => v.category).sum ≤ W9) (hdg : decode c.code g.pc = .ok (.invokestatic index, 3))
    (hpre : ∀ vm₁, s.WarmedH vm₁ → Pre ⟨T.setVm vm₁, locs, cells, slots⟩ argsL.toArray) :
    (∃ (v : Option Value) (vm₁ : Vm) (B : Pt), s.WarmedH vm₁ ∧ Stand p l e R s m args below meth c B.U B.locs B.cells B.slots ∧ Post ⟨T.setVm vm₁, locs, cells, slots⟩ argsL.toArray v B ∧
      ∀ target, Steps p.tables e below (B.U.setTop { g with pc := g.pc + 3, stack := v.toList ++ rest }) target → Steps p.tables e below (T.setTop g) target) ∨
    (∃ (q : Addr) (vm₁ : Vm) (B : Pt), s.WarmedH vm₁ ∧ Stand p l e R s m args below meth c B.U B.locs B.cells B.slots ∧ PostX ⟨T.setVm vm₁, locs, cells, slots⟩ argsL.toArray q B ∧
      Steps p.tables e below (T.setTop g) ((B.U.setTop { g with stack := rest }).pushFrame (.throwing q))) := by
  obtain ⟨mk, methM, cM, hnamed, hmethM, -, -, -, -, -, -, hsigM⟩ := Cond.codeWith_spec hcode
  have hstatic : methM.isStatic = true := Cond.static_spec hnamed hmethM hstat
  obtain ⟨kP, hkP, -⟩ := className_of_methodNamed hnamed
  have hinitP : kP.init = .initialized := Cond.initialized_spec (findClass_of_methodNamed hnamed) hkP hinit
  obtain ⟨vm₁, X₁, hstep₁⟩ := X.invokestatic hexec hown hlink hnamed hmethM hstatic hkP hinitP hy (g := g) hg (argsL := argsL) (rest := rest) (hlen _ hsigM) hstack hdg
  rcases hK m meth c ⟨T.setVm vm₁, locs, cells, slots⟩ { g with stack := rest } (.invokestatic index) mk argsL.toArray X₁ hg hsize hdg hW (X₁.named hnamed) (hpre vm₁ X₁.warmed) with ⟨v, B, X', hpost, hsteps⟩ | ⟨q, B, X', hpost, hsteps⟩
  · exact Or.inl ⟨v, vm₁, B, X₁.warmed, X', hpost, fun target h => hstep₁ _ fun acts => by rw [doInvoke_state]; exact hsteps.trans h⟩
  · exact Or.inr ⟨q, vm₁, B, X₁.warmed, X', hpost, hstep₁ _ fun acts => by rw [doInvoke_state]; exact hsteps⟩
theorem vx_callVW (X : Stand p l e R s m args below meth c T locs cells slots) (hexec : p.tables.exec = Jvm.exec) {own C : String} {index : Nat} {y : MethodName} {bytes : ByteArray} {maxL : Nat} {ret : Option FieldType} {hh : List (Nat × Nat × Nat × Nat)}
    (hown : s.vm.findClass own = some m.cls) (hlink : (Cond.methodLink own index y).before args s = true) (hinst : (Cond.instanceMethod y).before args s = true) (hsel : (Cond.selects C y y).before args s = true)
    (hcode : (Cond.codeWith y bytes maxL ret hh).before args s = true) (hy : y.cls ≠ "java/lang/invoke/MethodHandle" ∧ y.cls ≠ "java/lang/invoke/VarHandle")
    {W9 : Nat} {Pre : Pt → Array Value → Prop} {Post : Pt → Array Value → Option Value → Pt → Prop} (hK : Back l R p e below s args y 3 W9 Pre Post)
    {b : Addr} {cellB : Cell} (hcell : T.heap[b]? = some cellB) (hobj : cellB.vm.isStatics = false) (hcls : s.vm.findClass C = some cellB.cls)
    {g : JFrame} (hg : g.method = m) (hsize : g.locals.size = c.maxLocals) {argsL rest : List Value} (hlen : ∀ sig, parseMethodDescriptor y.desc = some sig → argsL.length = sig.parameters.length)
    (hstack : g.stack = argsL.reverse ++ .ref b :: rest) (hW : 2 * g.monitorRoom + (rest.map fun v => v.category).sum ≤ W9) (hdg : decode c.code g.pc = .ok (.invokevirtual index, 3))
    (hpre : ∀ vm₁, s.WarmedH vm₁ → Pre ⟨T.setVm vm₁, locs, cells, slots⟩ (Value.ref b :: argsL).toArray) :
    ∃ (v : Option Value) (vm₁ : Vm) (B : Pt), s.WarmedH vm₁ ∧ Stand p l e R s m args below meth c B.U B.locs B.cells B.slots ∧ Post ⟨T.setVm vm₁, locs, cells, slots⟩ (Value.ref b :: argsL).toArray v B ∧
      ∀ target, Steps p.tables e below (B.U.setTop { g with pc := g.pc + 3, stack := v.toList ++ rest }) target → Steps p.tables e below (T.setTop g) target := by
  obtain ⟨mk, methM, hnamed, hmethM, hstM, habM⟩ := Cond.instanceMethod_spec hinst
  obtain ⟨m8, methM', cM, hn8, hmethM', -, -, -, -, -, -, hsigM⟩ := Cond.codeWith_spec hcode
  cases Option.some.inj (hn8.symm.trans hnamed)
  cases hmethM.symm.trans hmethM'
  obtain ⟨c2, r2, m2, q1, q2, q3, q4, kP, hkP, hkPi⟩ := Cond.selects_spec hsel
  cases hcls.symm.trans q1
  cases (State.methodFound?_of_named hnamed hy).symm.trans q2
  cases hnamed.symm.trans q3
  have hselP : selectMethod e.platform s.vm cellB.cls mk = .method mk := by rw [Launch.admits_selectMethod X.admits]; exact q4
  obtain ⟨vm₁, X₁, hstep₁⟩ := X.invokevirtual hexec hown hlink hnamed hmethM hstM hkP hkPi hy (a := b) (cell := cellB) hcell
    (fun z h => by rw [h] at hobj; cases hobj) hselP hmethM habM hkP hkPi (g := g) hg (argsL := argsL) (rest := rest) (hlen _ hsigM) hstack hdg
  obtain ⟨v, B, X', hpost, hsteps⟩ := hK m meth c ⟨T.setVm vm₁, locs, cells, slots⟩ { g with stack := rest } (.invokevirtual index) mk (Value.ref b :: argsL).toArray X₁ hg hsize hdg hW (X₁.named hnamed) (hpre vm₁ X₁.warmed)
  exact ⟨v, vm₁, B, X₁.warmed, X', hpost, fun target h => hstep₁ _ fun acts => by rw [doInvoke_state]; exact hsteps.trans h⟩
abbrev vx_CVW (R : Room) (s : State) (args : Array Value) (own C : String) (index : Nat) (y : MethodName) (bytes : ByteArray) (maxL : Nat) (ret : Option FieldType) (hh : List (Nat × Nat × Nat × Nat)) (ws : List Cond) (rm : Room) (mc ms n : Nat) : Prop :=
  (rm.cells = mc ∧ rm.slots = ms ∧ rm.frames + 1 ≤ R.frames ∧ 8 + (maxL + 11) + rm.locals ≤ R.locals ∧ (∀ w ∈ ws, ∀ (a' : Array Value) (U : State), s.WarmedH U.vm → w.before a' U = true) ∧ Cond.codeWith y bytes maxL ret hh ∈ ws) ∧
  (Cond.codeWith y bytes maxL ret hh).before args s = true ∧ (Cond.initialized y.cls).before args s = true ∧ (y.cls ≠ "java/lang/invoke/MethodHandle" ∧ y.cls ≠ "java/lang/invoke/VarHandle") ∧
  (∀ sig, parseMethodDescriptor y.desc = some sig → n = sig.parameters.length) ∧ (Cond.methodLink own index y).before args s = true ∧ (Cond.instanceMethod y).before args s = true ∧ (Cond.selects C y y).before args s = true
theorem vx_cwVW {own C : String} {index maxL mc ms : Nat} {y : MethodName} {bytes : ByteArray} {ret : Option FieldType} {hh : List (Nat × Nat × Nat × Nat)} {Ts ws ws' : List Cond} {rm : Room} (n : Nat) (ht : ∀ w ∈ Ts, w.before args s = true) (hT : GoodIn Ts (wsV own index C y ws)) (hw : ws = Cond.codeWith y bytes maxL ret hh :: ws') (hrc : rm.cells = mc) (hrs : rm.slots = ms)
    (hd : y.cls = C ∧ y.cls ≠ "java/lang/invoke/MethodHandle" ∧ y.cls ≠ "java/lang/invoke/VarHandle" ∧ (parseMethodDescriptor y.desc).map (fun d => d.parameters.length) = some n) (hR : rm.frames + 1 ≤ R.frames ∧ 8 + (maxL + 11) + rm.locals ≤ R.locals) :
    vx_CVW R s args own C index y bytes maxL ret hh ws rm mc ms n := by
  obtain ⟨hC, hd⟩ := hd
  subst hC
  have ok : ∀ w ∈ wsV own index y.cls y ws, w.before args s = true := fun w h => ht w (hT w h).1
  have hG : GoodIn Ts ws := fun w h => hT w (by unfold wsV; exact List.mem_append_right _ h)
  have hc : Cond.codeWith y bytes maxL ret hh ∈ ws := by rw [hw]; exact List.mem_cons_self
  refine ⟨⟨hrc, hrs, hR.1, hR.2, pay_in ht hG, hc⟩, ht _ (hG _ hc).1, ok _ (by simp [wsV]), ⟨hd.1, hd.2.1⟩, fun sig h => ?_, ok _ (by simp [wsV]), ok _ (by simp [wsV]), ok _ (by simp [wsV])⟩
  have h2 := hd.2.2
  rw [h] at h2
  exact (Option.some.inj h2).symm
theorem vx_runVW {y : MethodName} {bytes cc : ByteArray} {maxL nL mc ms n index : Nat} {ret : Option FieldType} {hh : List (Nat × Nat × Nat × Nat)} {ws : List Cond} {rm : Room} {Pc : Array Value → State → Prop} {Qc : Array Value → State → Outcome → State → Prop} {free : Addr → Prop} {Ts : List Cond} {own C : String} {b : Addr} {As rest : List Value} {g : JFrame}
    (S : CallFix p m c cc nL s args Ts own) (hM : Met l y ws rm Pc Qc mc ms free) (cw : vx_CVW R s args own C index y bytes maxL ret hh ws rm mc ms n) (hp : PreV s H C b Pc As)
    (hg : g.method = m) (hn : As.length = n) (hsize : g.locals.size = nL) (hstack : g.stack = As.reverse ++ .ref b :: rest) (hW : 2 * g.monitorRoom + (rest.map fun v => v.category).sum ≤ 8) (hdg : decode cc g.pc = .ok (.invokevirtual index, 3)) (hf : cells + mc ≤ R.cells ∧ slots + ms ≤ R.slots) :
    va_Run p l e R s m args below meth c H locs cells slots mc ms g rest (Qc (Value.ref b :: As).toArray) free := by
  obtain ⟨⟨hrc, hrs, hfr, hlo, hws, hcw⟩, hcode, hini, hy, hlen, hl, hin, hse⟩ := cw
  have hK : Back l R p e below s args y 3 8 (PreOf R mc ms Pc) (PostOf Qc mc ms free) := va_backW (hh := hh) (bytes := bytes) (maxL := maxL) (ret := ret) hM hp.1 hrc hrs hfr hlo hws hcw (fun a' U hW => word_at hW (Or.inl (by first | rfl | simp [Cond.onTables, Cond.keeps, Cond.steady])) hini)
  obtain ⟨hx, hb, hml, ho, -⟩ := S
  obtain ⟨-, ⟨cellB, hcB, hoB, hclB⟩, hPc⟩ := hp
  intro T hT X
  obtain ⟨v, vm₁, ⟨U', l2, c2, s2⟩, hW₁, X', ⟨g', mk, t, L, e1, e2, hq, h1, hL, h2, h3⟩, st⟩ := vx_callVW X hx (C := C) (hh := hh) (bytes := bytes) (maxL := maxL) (ret := ret) ho hl hin hse hcode hy hK (by rw [hT]; exact hcB) hoB hclB hg (hsize.trans hml.symm) (argsL := As) (rest := rest) (fun sig h => hn.trans (hlen sig h)) hstack hW (by rw [hb]; exact hdg)
    (fun vm₁ hW₁ => ⟨hf.1, hf.2, hPc (T.setVm vm₁) hT hW₁⟩)
  dsimp only [Pt.U, Pt.locs, Pt.cells, Pt.slots] at X' e1 e2 h1 h2 h3 st
  subst h1; subst h2; subst h3
  exact ⟨v, (T.setVm vm₁).calling g' mk (Value.ref b :: As).toArray, t, U', L, hT, X', hL, e1, e2, hq, st⟩
section
variable {y : MethodName} {bytes cc : ByteArray} {maxL nL mc ms n index : Nat} {ret : Option FieldType} {ws : List Cond} {rm : Room} {Pc : Array Value → State → Prop} {Qc : Array Value → State → Outcome → State → Prop} {XC : String → State → State → Prop} {free : Addr → Prop} {Ts : List Cond} {own C : String} {b : Addr} {As rest : List Value} {g : JFrame}
theorem vx_runVX {hh : List (Nat × Nat × Nat × Nat)} (S : CallFix p m c cc nL s args Ts own) (hM : vx_Met l y ws rm Pc Qc XC mc ms free) (cw : vx_CVW R s args own C index y bytes maxL ret hh ws rm mc ms n) (hp : PreV s H C b Pc As)
    (hg : g.method = m) (hn : As.length = n) (hsize : g.locals.size = nL) (hstack : g.stack = As.reverse ++ .ref b :: rest) (hW : 2 * g.monitorRoom + (rest.map fun v => v.category).sum ≤ 8) (hdg : decode cc g.pc = .ok (.invokevirtual index, 3)) (hf : cells + mc ≤ R.cells ∧ slots + ms ≤ R.slots) :
    vx_Run p l e R s m args below meth c H locs cells slots mc ms g rest (Qc (Value.ref b :: As).toArray) XC free := by
  obtain ⟨⟨hrc, hrs, hfr, hlo, hws, hcw⟩, hcode, hini, hy, hlen, hl, hin, hse⟩ := cw
  have hK : vx_Back l R p e below s args y 3 8 (PreOf R mc ms Pc) (PostOf Qc mc ms free) (vx_Post XC mc ms free) := vx_backW (hh := hh) (bytes := bytes) (maxL := maxL) (ret := ret) hM hp.1 hrc hrs hfr hlo hws hcw (fun a' U hW => word_at hW (Or.inl (by first | rfl | simp [Cond.onTables, Cond.keeps, Cond.steady])) hini)
  obtain ⟨hx, hb, hml, ho, -⟩ := S
  obtain ⟨-, ⟨cellB, hcB, hoB, hclB⟩, hPc⟩ := hp
  intro T hT X
  rcases vx_callVX X hx (C := C) (hh := hh) (bytes := bytes) (maxL := maxL) (ret := ret) ho hl hin hse hcode hy hK (by rw [hT]; exact hcB) hoB hclB hg (hsize.trans hml.symm) (argsL := As) (rest := rest) (fun sig h => hn.trans (hlen sig h)) hstack hW (by rw [hb]; exact hdg)
    (fun vm₁ hW₁ => ⟨hf.1, hf.2, hPc (T.setVm vm₁) hT hW₁⟩) with ⟨v, vm₁, ⟨U', l2, c2, s2⟩, hW₁, X', ⟨g', mk, t, L, e1, e2, hq, h1, hL, h2, h3⟩, st⟩ | ⟨q, vm₁, ⟨U', l2, c2, s2⟩, hW₁, X', ⟨g', mk, t, L, E, ce, e1, e2, hq, hce, hcv, hcl, h1, hL, h2, h3⟩, st⟩
  · dsimp only [Pt.U, Pt.locs, Pt.cells, Pt.slots] at X' e1 e2 h1 h2 h3 st
    subst h1; subst h2; subst h3
    exact Or.inl ⟨v, (T.setVm vm₁).calling g' mk (Value.ref b :: As).toArray, t, U', L, hT, X', hL, e1, e2, hq, st⟩
  · dsimp only [Pt.U, Pt.locs, Pt.cells, Pt.slots] at X' e1 e2 h1 h2 h3 st hcl
    subst h1; subst h2; subst h3
    exact Or.inr ⟨q, (T.setVm vm₁).calling g' mk (Value.ref b :: As).toArray, t, U', L, E, ce, hT, X', hL, e1, e2, hq, hce, hcv, vx_cls hW₁ hcl, st⟩
theorem vx_runSX {hh : List (Nat × Nat × Nat × Nat)} (S : CallFix p m c cc nL s args Ts own) (hM : vx_Met l y ws rm Pc Qc XC mc ms free) (cw : vx_CSW R s args own index y bytes maxL ret hh ws rm mc ms n) (hp : PreS s H Pc As)
    (hg : g.method = m) (hn : As.length = n) (hsize : g.locals.size = nL) (hstack : g.stack = As.reverse ++ rest) (hW : 2 * g.monitorRoom + (rest.map fun v => v.category).sum ≤ 8) (hdg : decode cc g.pc = .ok (.invokestatic index, 3)) (hf : cells + mc ≤ R.cells ∧ slots + ms ≤ R.slots) :
    vx_Run p l e R s m args below meth c H locs cells slots mc ms g rest (Qc As.toArray) XC free := by
  obtain ⟨⟨hrc, hrs, hfr, hlo, hws, hcw⟩, hcode, hini, hy, hlen, hl, hstt⟩ := cw
  have hK : vx_Back l R p e below s args y 3 8 (PreOf R mc ms Pc) (PostOf Qc mc ms free) (vx_Post XC mc ms free) := vx_backW (hh := hh) (bytes := bytes) (maxL := maxL) (ret := ret) hM hp.1 hrc hrs hfr hlo hws hcw (fun a' U hW => word_at hW (Or.inl (by first | rfl | simp [Cond.onTables, Cond.keeps, Cond.steady])) hini)
  obtain ⟨hx, hb, hml, ho, -⟩ := S
  intro T hT X
  rcases vx_callSX X hx (hh := hh) (bytes := bytes) (maxL := maxL) (ret := ret) ho hl hstt hini hcode hy hK hg (hsize.trans hml.symm) (argsL := As) (rest := rest) (fun sig h => hn.trans (hlen sig h)) hstack hW (by rw [hb]; exact hdg)
    (fun vm₁ hW₁ => ⟨hf.1, hf.2, hp.2 (T.setVm vm₁) hT hW₁⟩) with ⟨v, vm₁, ⟨U', l2, c2, s2⟩, hW₁, X', ⟨g', mk, t, L, e1, e2, hq, h1, hL, h2, h3⟩, st⟩ | ⟨q, vm₁, ⟨U', l2, c2, s2⟩, hW₁, X', ⟨g', mk, t, L, E, ce, e1, e2, hq, hce, hcv, hcl, h1, hL, h2, h3⟩, st⟩
  · dsimp only [Pt.U, Pt.locs, Pt.cells, Pt.slots] at X' e1 e2 h1 h2 h3 st
    subst h1; subst h2; subst h3
    exact Or.inl ⟨v, (T.setVm vm₁).calling g' mk As.toArray, t, U', L, hT, X', hL, e1, e2, hq, st⟩
  · dsimp only [Pt.U, Pt.locs, Pt.cells, Pt.slots] at X' e1 e2 h1 h2 h3 st hcl
    subst h1; subst h2; subst h3
    exact Or.inr ⟨q, (T.setVm vm₁).calling g' mk As.toArray, t, U', L, E, ce, hT, X', hL, e1, e2, hq, hce, hcv, vx_cls hW₁ hcl, st⟩
end
end VXH
theorem vx_ofWH {l : Launch} {y : MethodName} {ws ws' : List Cond} {rm : Room} {Pc : Array Value → State → Prop} {Qc : Array Value → State → Outcome → State → Prop} {XC : String → State → State → Prop} {mc ms : Nat} {free : Addr → Prop} {cc : ByteArray} {maxL : Nat} {ret : Option FieldType} {hh : List (Nat × Nat × Nat × Nat)}
    (hy : plainName y.cls = true) (hw : ws = Cond.codeWith y cc maxL ret hh :: ws')
    (body : ∀ p e s m args below meth c s₁, BodyLoose p l y (headSpec ws rm) cc maxL ret e s m args below meth c s₁ → c.maxLocals = maxL → Pc args s →
      W p l e (headSpec ws rm).room s m args below meth c s.heap [] 0 0 (vx_MQ below Qc XC args s mc ms free) (entryFrame m args maxL)) : vx_Met l y ws rm Pc Qc XC mc ms free := by
  refine MetFree.of_bodyS (code := cc) (maxLocals := maxL) (ret := ret) hy ?_ ?_
  · intro args s m h hn
    obtain ⟨m9, meth, c, hn9, h1, h2, h3, h4, -, h5, h6, -⟩ := Cond.codeWith_spec (atoms_spec (ws := ws) h _ (by rw [hw]; exact List.mem_cons_self))
    cases hn.symm.trans hn9
    exact ⟨meth, c, h1, h2, h3, h4, h5, h6⟩
  · intro p e s m args below meth c s₁ B hml hP _
    have hh0 : s₁.heap = s.heap := by rw [B.state]; rfl
    obtain ⟨t, a1, o, b1, b2, b3⟩ := body p e s m args below meth c s₁ B hml hP s₁ hh0 (Stand.of_body B)
    exact ⟨t, o, a1, b1, b2, b3⟩
/-! ===== END ===== -/

/-! ===== BEGIN printed: names, fields, word lists, decode rows ===== -/
def RX0 : String := "TripleSigns$Layout"
def TX0 : u_T := fun k => match k with
  | 0 => ("TripleSigns$Layout", "points", "I", false)
  | 1 => ("TripleSigns$Layout", "triples", "I", false)
  | 2 => ("TripleSigns$Layout", "relations", "I", false)
  | 3 => ("TripleSigns$Layout", "corners", "[I", true)
  | 4 => ("TripleSigns$Layout", "numbers", "[I", true)
  | 5 => ("TripleSigns$Layout", "parities", "[I", true)
  | 6 => ("TripleSigns$Layout", "members", "[I", true)
  | 7 => ("TripleSigns$Layout", "factors", "[I", true)
  | 8 => ("TripleSigns$Layout", "coefficients", "[I", true)
  | _ => ("TripleSigns$Layout", "masks", "[J", true)
def tyX0 : Nat → FieldType := fun k => match k with
  | 0 => .int
  | 1 => .int
  | 2 => .int
  | 3 => .array .int
  | 4 => .array .int
  | 5 => .array .int
  | 6 => .array .int
  | 7 => .array .int
  | 8 => .array .int
  | _ => .array .long
abbrev wsX00 : List Cond := u_ws RX0 TX0 10
theorem nmX0 : ∀ a, a < 10 → ∀ b, b < 10 → a ≠ b → (TX0 a).2.1 ≠ (TX0 b).2.1 := by decide +kernel
theorem tyX0_ok : ∀ k, k < 10 → parseFieldDescriptor (TX0 k).2.2.1 = some (tyX0 k) := by decide +kernel
abbrev cX0_init : ByteArray := prog_2_method_1_code
def yX0_init : MethodName := ⟨RX0, "<init>", "()V"⟩
abbrev cX0_arrange : ByteArray := prog_2_method_2_code
def yX0_arrange : MethodName := ⟨RX0, "arrange", "(I)V"⟩
abbrev cX0_arrangeTriples : ByteArray := prog_2_method_3_code
def yX0_arrangeTriples : MethodName := ⟨RX0, "arrangeTriples", "()V"⟩
abbrev cX0_addTriple : ByteArray := prog_2_method_4_code
def yX0_addTriple : MethodName := ⟨RX0, "addTriple", "(III)V"⟩
abbrev cX0_enter : ByteArray := prog_2_method_5_code
def yX0_enter : MethodName := ⟨RX0, "enter", "(IIII)V"⟩
abbrev cX0_arrangeRelations : ByteArray := prog_2_method_6_code
def yX0_arrangeRelations : MethodName := ⟨RX0, "arrangeRelations", "(I)V"⟩
abbrev cX0_addRelation : ByteArray := prog_2_method_7_code
def yX0_addRelation : MethodName := ⟨RX0, "addRelation", "(IIIII)V"⟩
abbrev cX0_setProduct : ByteArray := prog_2_method_8_code
def yX0_setProduct : MethodName := ⟨RX0, "setProduct", "(IIII)V"⟩
abbrev cX0_spot : ByteArray := prog_2_method_9_code
def yX0_spot : MethodName := ⟨RX0, "spot", "(III)I"⟩
abbrev cX0_numberOf : ByteArray := prog_2_method_10_code
def yX0_numberOf : MethodName := ⟨RX0, "numberOf", "(III)I"⟩
abbrev cX0_parity : ByteArray := prog_2_method_11_code
def yX0_parity : MethodName := ⟨RX0, "parity", "(III)I"⟩
abbrev cX0_corner : ByteArray := prog_2_method_12_code
def yX0_corner : MethodName := ⟨RX0, "corner", "(II)I"⟩
abbrev cX0_hasCorner : ByteArray := prog_2_method_13_code
def yX0_hasCorner : MethodName := ⟨RX0, "hasCorner", "(II)Z"⟩
abbrev cX0_member : ByteArray := prog_2_method_14_code
def yX0_member : MethodName := ⟨RX0, "member", "(II)I"⟩
abbrev cX0_factor : ByteArray := prog_2_method_15_code
def yX0_factor : MethodName := ⟨RX0, "factor", "(II)I"⟩
abbrev cX0_unknownIn : ByteArray := prog_2_method_16_code
def yX0_unknownIn : MethodName := ⟨RX0, "unknownIn", "(I[I)I"⟩
abbrev cX0_firstUnknownIn : ByteArray := prog_2_method_17_code
def yX0_firstUnknownIn : MethodName := ⟨RX0, "firstUnknownIn", "(I[I)I"⟩
abbrev cX0_verdict : ByteArray := prog_2_method_18_code
def yX0_verdict : MethodName := ⟨RX0, "verdict", "(I[I)I"⟩
abbrev cX0_isViolatedWith : ByteArray := prog_2_method_19_code
def yX0_isViolatedWith : MethodName := ⟨RX0, "isViolatedWith", "(I[I)Z"⟩
abbrev cX0_signAt : ByteArray := prog_2_method_20_code
def yX0_signAt : MethodName := ⟨RX0, "signAt", "(I[I[I)I"⟩
def RX1 : String := "TripleSigns$Script"
def TX1 : u_T := fun k => match k with
  | 0 => ("TripleSigns$Script", "bytes", "[I", true)
  | 1 => ("TripleSigns$Script", "length", "I", false)
  | 2 => ("TripleSigns$Script", "words", "[I", true)
  | 3 => ("TripleSigns$Script", "names", "[I", true)
  | _ => ("TripleSigns$Script", "commands", "I", false)
def tyX1 : Nat → FieldType := fun k => match k with
  | 0 => .array .int
  | 1 => .int
  | 2 => .array .int
  | 3 => .array .int
  | _ => .int
abbrev wsX10 : List Cond := u_ws RX1 TX1 5
theorem nmX1 : ∀ a, a < 5 → ∀ b, b < 5 → a ≠ b → (TX1 a).2.1 ≠ (TX1 b).2.1 := by decide +kernel
theorem tyX1_ok : ∀ k, k < 5 → parseFieldDescriptor (TX1 k).2.2.1 = some (tyX1 k) := by decide +kernel
abbrev cX1_init : ByteArray := prog_3_method_1_code
def yX1_init : MethodName := ⟨RX1, "<init>", "()V"⟩
abbrev cX1_parse : ByteArray := prog_3_method_2_code
def yX1_parse : MethodName := ⟨RX1, "parse", "()I"⟩
abbrev cX1_tellFault : ByteArray := prog_3_method_3_code
def yX1_tellFault : MethodName := ⟨RX1, "tellFault", "(I)I"⟩
abbrev cX1_faultIn : ByteArray := prog_3_method_4_code
def yX1_faultIn : MethodName := ⟨RX1, "faultIn", "(I)I"⟩
abbrev cX1_behindSpaces : ByteArray := prog_3_method_5_code
def yX1_behindSpaces : MethodName := ⟨RX1, "behindSpaces", "(I)I"⟩
abbrev cX1_behindLetters : ByteArray := prog_3_method_6_code
def yX1_behindLetters : MethodName := ⟨RX1, "behindLetters", "(I)I"⟩
abbrev cX1_behindCommand : ByteArray := prog_3_method_7_code
def yX1_behindCommand : MethodName := ⟨RX1, "behindCommand", "(I)I"⟩
abbrev cX1_behindNames : ByteArray := prog_3_method_8_code
def yX1_behindNames : MethodName := ⟨RX1, "behindNames", "(I)I"⟩
abbrev cX1_name : ByteArray := prog_3_method_9_code
def yX1_name : MethodName := ⟨RX1, "name", "(II)I"⟩
abbrev cX1_wordBetween : ByteArray := prog_3_method_10_code
def yX1_wordBetween : MethodName := ⟨RX1, "wordBetween", "(II)I"⟩
abbrev cX1_isSpelled : ByteArray := prog_3_method_11_code
def yX1_isSpelled : MethodName := ⟨RX1, "isSpelled", "(Ljava/lang/String;II)Z"⟩
abbrev cX1_hasNames : ByteArray := prog_3_method_12_code
def yX1_hasNames : MethodName := ⟨RX1, "hasNames", "(I)Z"⟩
abbrev cX1_spelling : ByteArray := prog_3_method_13_code
def yX1_spelling : MethodName := ⟨RX1, "spelling", "(I)Ljava/lang/String;"⟩
abbrev cX1_wordFor : ByteArray := prog_3_method_14_code
def yX1_wordFor : MethodName := ⟨RX1, "wordFor", "(I)I"⟩
abbrev cX1_signOf : ByteArray := prog_3_method_15_code
def yX1_signOf : MethodName := ⟨RX1, "signOf", "(I)I"⟩
def RX2 : String := "TripleSigns$State"
def TX2 : u_T := fun k => match k with
  | 0 => ("TripleSigns$State", "points", "I", false)
  | 1 => ("TripleSigns$State", "uniform", "Z", false)
  | 2 => ("TripleSigns$State", "contradiction", "I", false)
  | 3 => ("TripleSigns$State", "signs", "[I", true)
  | 4 => ("TripleSigns$State", "kinds", "[I", true)
  | 5 => ("TripleSigns$State", "sources", "[I", true)
  | 6 => ("TripleSigns$State", "steps", "[I", true)
  | 7 => ("TripleSigns$State", "reasonMasks", "[J", true)
  | 8 => ("TripleSigns$State", "xs", "[I", true)
  | _ => ("TripleSigns$State", "ys", "[I", true)
def tyX2 : Nat → FieldType := fun k => match k with
  | 0 => .int
  | 1 => .boolean
  | 2 => .int
  | 3 => .array .int
  | 4 => .array .int
  | 5 => .array .int
  | 6 => .array .int
  | 7 => .array .long
  | 8 => .array .int
  | _ => .array .int
abbrev wsX20 : List Cond := u_ws RX2 TX2 10
theorem nmX2 : ∀ a, a < 10 → ∀ b, b < 10 → a ≠ b → (TX2 a).2.1 ≠ (TX2 b).2.1 := by decide +kernel
theorem tyX2_ok : ∀ k, k < 10 → parseFieldDescriptor (TX2 k).2.2.1 = some (tyX2 k) := by decide +kernel
abbrev cX2_init : ByteArray := prog_4_method_1_code
def yX2_init : MethodName := ⟨RX2, "<init>", "()V"⟩
abbrev cX2_clearFor : ByteArray := prog_4_method_2_code
def yX2_clearFor : MethodName := ⟨RX2, "clearFor", "(I)V"⟩
abbrev cX2_copyFrom : ByteArray := prog_4_method_3_code
def yX2_copyFrom : MethodName := ⟨RX2, "copyFrom", "(LTripleSigns$State;)V"⟩
abbrev cX2_setUnknown : ByteArray := prog_4_method_4_code
def yX2_setUnknown : MethodName := ⟨RX2, "setUnknown", "(I)V"⟩
abbrev cX2_setGiven : ByteArray := prog_4_method_5_code
def yX2_setGiven : MethodName := ⟨RX2, "setGiven", "(II)V"⟩
abbrev cX2_setDerived : ByteArray := prog_4_method_6_code
def yX2_setDerived : MethodName := ⟨RX2, "setDerived", "(IIIIJ)V"⟩
abbrev cX2_forgetDerived : ByteArray := prog_4_method_7_code
def yX2_forgetDerived : MethodName := ⟨RX2, "forgetDerived", "()I"⟩
abbrev cX2_countKind : ByteArray := prog_4_method_8_code
def yX2_countKind : MethodName := ⟨RX2, "countKind", "(II)I"⟩
def RX3 : String := "TripleSigns"
def TX3 : u_T := fun k => match k with
  | 0 => ("TripleSigns", "layout", "LTripleSigns$Layout;", true)
  | 1 => ("TripleSigns", "now", "LTripleSigns$State;", true)
  | 2 => ("TripleSigns", "script", "LTripleSigns$Script;", true)
  | 3 => ("TripleSigns", "saved", "[LTripleSigns$State;", true)
  | 4 => ("TripleSigns", "savedStates", "I", false)
  | 5 => ("TripleSigns", "exchanged", "[I", true)
  | 6 => ("TripleSigns", "open", "[I", true)
  | 7 => ("TripleSigns", "lineMasks", "[I", true)
  | 8 => ("TripleSigns", "triedXs", "[I", true)
  | 9 => ("TripleSigns", "triedYs", "[I", true)
  | 10 => ("TripleSigns", "bestXs", "[I", true)
  | _ => ("TripleSigns", "bestYs", "[I", true)
def tyX3 : Nat → FieldType := fun k => match k with
  | 0 => .object "TripleSigns$Layout"
  | 1 => .object "TripleSigns$State"
  | 2 => .object "TripleSigns$Script"
  | 3 => .array (.object "TripleSigns$State")
  | 4 => .int
  | 5 => .array .int
  | 6 => .array .int
  | 7 => .array .int
  | 8 => .array .int
  | 9 => .array .int
  | 10 => .array .int
  | _ => .array .int
abbrev wsX30 : List Cond := u_ws RX3 TX3 12
theorem nmX3 : ∀ a, a < 12 → ∀ b, b < 12 → a ≠ b → (TX3 a).2.1 ≠ (TX3 b).2.1 := by decide +kernel
theorem tyX3_ok : ∀ k, k < 12 → parseFieldDescriptor (TX3 k).2.2.1 = some (tyX3 k) := by decide +kernel
abbrev cX3_init : ByteArray := prog_1_method_1_code
def yX3_init : MethodName := ⟨RX3, "<init>", "()V"⟩
abbrev cX3_begin : ByteArray := prog_1_method_2_code
def yX3_begin : MethodName := ⟨RX3, "begin", "(I)I"⟩
abbrev cX3_give : ByteArray := prog_1_method_3_code
def yX3_give : MethodName := ⟨RX3, "give", "(IIII)I"⟩
abbrev cX3_drop : ByteArray := prog_1_method_4_code
def yX3_drop : MethodName := ⟨RX3, "drop", "(III)I"⟩
abbrev cX3_setUniform : ByteArray := prog_1_method_5_code
def yX3_setUniform : MethodName := ⟨RX3, "setUniform", "(Z)Z"⟩
abbrev cX3_derive : ByteArray := prog_1_method_6_code
def yX3_derive : MethodName := ⟨RX3, "derive", "()I"⟩
abbrev cX3_forget : ByteArray := prog_1_method_7_code
def yX3_forget : MethodName := ⟨RX3, "forget", "()I"⟩
abbrev cX3_mirror : ByteArray := prog_1_method_8_code
def yX3_mirror : MethodName := ⟨RX3, "mirror", "()I"⟩
abbrev cX3_turn : ByteArray := prog_1_method_9_code
def yX3_turn : MethodName := ⟨RX3, "turn", "(I)I"⟩
abbrev cX3_exchange : ByteArray := prog_1_method_10_code
def yX3_exchange : MethodName := ⟨RX3, "exchange", "(II)I"⟩
abbrev cX3_sign : ByteArray := prog_1_method_11_code
def yX3_sign : MethodName := ⟨RX3, "sign", "(III)I"⟩
abbrev cX3_triple : ByteArray := prog_1_method_12_code
def yX3_triple : MethodName := ⟨RX3, "triple", "(II)I"⟩
abbrev cX3_reasons : ByteArray := prog_1_method_13_code
def yX3_reasons : MethodName := ⟨RX3, "reasons", "(I)J"⟩
abbrev cX3_count : ByteArray := prog_1_method_14_code
def yX3_count : MethodName := ⟨RX3, "count", "(I)I"⟩
abbrev cX3_relation : ByteArray := prog_1_method_15_code
def yX3_relation : MethodName := ⟨RX3, "relation", "(II)I"⟩
abbrev cX3_behind : ByteArray := prog_1_method_16_code
def yX3_behind : MethodName := ⟨RX3, "behind", "(I)J"⟩
abbrev cX3_completions : ByteArray := prog_1_method_17_code
def yX3_completions : MethodName := ⟨RX3, "completions", "()I"⟩
abbrev cX3_cocircuit : ByteArray := prog_1_method_18_code
def yX3_cocircuit : MethodName := ⟨RX3, "cocircuit", "(II)I"⟩
abbrev cX3_isExtreme : ByteArray := prog_1_method_19_code
def yX3_isExtreme : MethodName := ⟨RX3, "isExtreme", "(I)Z"⟩
abbrev cX3_lines : ByteArray := prog_1_method_20_code
def yX3_lines : MethodName := ⟨RX3, "lines", "()I"⟩
abbrev cX3_place : ByteArray := prog_1_method_21_code
def yX3_place : MethodName := ⟨RX3, "place", "(III)Z"⟩
abbrev cX3_coordinate : ByteArray := prog_1_method_22_code
def yX3_coordinate : MethodName := ⟨RX3, "coordinate", "(II)I"⟩
abbrev cX3_read : ByteArray := prog_1_method_23_code
def yX3_read : MethodName := ⟨RX3, "read", "()I"⟩
abbrev cX3_mismatches : ByteArray := prog_1_method_24_code
def yX3_mismatches : MethodName := ⟨RX3, "mismatches", "()I"⟩
abbrev cX3_scatter : ByteArray := prog_1_method_25_code
def yX3_scatter : MethodName := ⟨RX3, "scatter", "(III)I"⟩
abbrev cX3_type : ByteArray := prog_1_method_26_code
def yX3_type : MethodName := ⟨RX3, "type", "(I)I"⟩
abbrev cX3_clearScript : ByteArray := prog_1_method_27_code
def yX3_clearScript : MethodName := ⟨RX3, "clearScript", "()I"⟩
abbrev cX3_run : ByteArray := prog_1_method_28_code
def yX3_run : MethodName := ⟨RX3, "run", "()I"⟩
abbrev cX3_written : ByteArray := prog_1_method_29_code
def yX3_written : MethodName := ⟨RX3, "written", "(I)I"⟩
abbrev cX3_undo : ByteArray := prog_1_method_30_code
def yX3_undo : MethodName := ⟨RX3, "undo", "()I"⟩
abbrev cX3_digest : ByteArray := prog_1_method_31_code
def yX3_digest : MethodName := ⟨RX3, "digest", "()J"⟩
abbrev cX3_isPoint : ByteArray := prog_1_method_32_code
def yX3_isPoint : MethodName := ⟨RX3, "isPoint", "(I)Z"⟩
abbrev cX3_requirePoint : ByteArray := prog_1_method_33_code
def yX3_requirePoint : MethodName := ⟨RX3, "requirePoint", "(I)V"⟩
abbrev cX3_requireTriple : ByteArray := prog_1_method_34_code
def yX3_requireTriple : MethodName := ⟨RX3, "requireTriple", "(I)V"⟩
abbrev cX3_requireRelation : ByteArray := prog_1_method_35_code
def yX3_requireRelation : MethodName := ⟨RX3, "requireRelation", "(I)V"⟩
abbrev cX3_areDistinct : ByteArray := prog_1_method_36_code
def yX3_areDistinct : MethodName := ⟨RX3, "areDistinct", "(III)Z"⟩
abbrev cX3_requireDistinct : ByteArray := prog_1_method_37_code
def yX3_requireDistinct : MethodName := ⟨RX3, "requireDistinct", "(III)V"⟩
abbrev cX3_orderedSign : ByteArray := prog_1_method_38_code
def yX3_orderedSign : MethodName := ⟨RX3, "orderedSign", "(III)I"⟩
abbrev cX3_giveOrdered : ByteArray := prog_1_method_39_code
def yX3_giveOrdered : MethodName := ⟨RX3, "giveOrdered", "(IIII)V"⟩
abbrev cX3_giveTriple : ByteArray := prog_1_method_40_code
def yX3_giveTriple : MethodName := ⟨RX3, "giveTriple", "(II)V"⟩
abbrev cX3_takeAway : ByteArray := prog_1_method_41_code
def yX3_takeAway : MethodName := ⟨RX3, "takeAway", "(I)V"⟩
abbrev cX3_negateAll : ByteArray := prog_1_method_42_code
def yX3_negateAll : MethodName := ⟨RX3, "negateAll", "()I"⟩
abbrev cX3_partner : ByteArray := prog_1_method_43_code
def yX3_partner : MethodName := ⟨RX3, "partner", "(III)I"⟩
abbrev cX3_exchangeSigns : ByteArray := prog_1_method_44_code
def yX3_exchangeSigns : MethodName := ⟨RX3, "exchangeSigns", "(II)V"⟩
abbrev cX3_exchangeCoordinates : ByteArray := prog_1_method_45_code
def yX3_exchangeCoordinates : MethodName := ⟨RX3, "exchangeCoordinates", "(II)V"⟩
abbrev cX3_deriveAll : ByteArray := prog_1_method_46_code
def yX3_deriveAll : MethodName := ⟨RX3, "deriveAll", "()I"⟩
abbrev cX3_deriveOnce : ByteArray := prog_1_method_47_code
def yX3_deriveOnce : MethodName := ⟨RX3, "deriveOnce", "()Z"⟩
abbrev cX3_deriveFrom : ByteArray := prog_1_method_48_code
def yX3_deriveFrom : MethodName := ⟨RX3, "deriveFrom", "(I)Z"⟩
abbrev cX3_reasonsOf : ByteArray := prog_1_method_49_code
def yX3_reasonsOf : MethodName := ⟨RX3, "reasonsOf", "(I)J"⟩
abbrev cX3_countComplete : ByteArray := prog_1_method_50_code
def yX3_countComplete : MethodName := ⟨RX3, "countComplete", "()I"⟩
abbrev cX3_countViolated : ByteArray := prog_1_method_51_code
def yX3_countViolated : MethodName := ⟨RX3, "countViolated", "()I"⟩
abbrev cX3_waysFrom : ByteArray := prog_1_method_52_code
def yX3_waysFrom : MethodName := ⟨RX3, "waysFrom", "(II[I[ILTripleSigns$Layout;)I"⟩
abbrev cX3_borders : ByteArray := prog_1_method_53_code
def yX3_borders : MethodName := ⟨RX3, "borders", "(II)Z"⟩
abbrev cX3_lineMask : ByteArray := prog_1_method_54_code
def yX3_lineMask : MethodName := ⟨RX3, "lineMask", "(II)I"⟩
abbrev cX3_isListed : ByteArray := prog_1_method_55_code
def yX3_isListed : MethodName := ⟨RX3, "isListed", "(II)Z"⟩
abbrev cX3_mismatchesAt : ByteArray := prog_1_method_56_code
def yX3_mismatchesAt : MethodName := ⟨RX3, "mismatchesAt", "([I[I)I"⟩
abbrev cX3_nextRandom : ByteArray := prog_1_method_57_code
def yX3_nextRandom : MethodName := ⟨RX3, "nextRandom", "(J)J"⟩
abbrev cX3_randomCoordinate : ByteArray := prog_1_method_58_code
def yX3_randomCoordinate : MethodName := ⟨RX3, "randomCoordinate", "(JI)I"⟩
abbrev cX3_tryPlacement : ByteArray := prog_1_method_59_code
def yX3_tryPlacement : MethodName := ⟨RX3, "tryPlacement", "(JI)J"⟩
abbrev cX3_copyPoints : ByteArray := prog_1_method_60_code
def yX3_copyPoints : MethodName := ⟨RX3, "copyPoints", "([I[I[I[I)V"⟩
abbrev cX3_carryOut : ByteArray := prog_1_method_61_code
def yX3_carryOut : MethodName := ⟨RX3, "carryOut", "(I)Z"⟩
abbrev cX3_writtenIn : ByteArray := prog_1_method_62_code
def yX3_writtenIn : MethodName := ⟨RX3, "writtenIn", "(ILjava/lang/String;I)I"⟩
abbrev cX3_save : ByteArray := prog_1_method_63_code
def yX3_save : MethodName := ⟨RX3, "save", "()V"⟩
def RX4 : String := "TripleSignsModel"
def TX4 : u_T := fun k => match k with
  | 0 => ("TripleSignsModel", "s", "[I", true)
  | 1 => ("TripleSignsModel", "past", "[I", true)
  | 2 => ("TripleSignsModel", "aside", "[I", true)
  | 3 => ("TripleSignsModel", "pasts", "I", false)
  | 4 => ("TripleSignsModel", "text", "[I", true)
  | 5 => ("TripleSignsModel", "typed", "I", false)
  | 6 => ("TripleSignsModel", "thrown", "I", false)
  | 7 => ("TripleSignsModel", "of", "[I", true)
  | 8 => ("TripleSignsModel", "number", "[I", true)
  | 9 => ("TripleSignsModel", "triples", "I", false)
  | 10 => ("TripleSignsModel", "rel", "[I", true)
  | 11 => ("TripleSignsModel", "relations", "I", false)
  | 12 => ("TripleSignsModel", "answer", "I", false)
  | 13 => ("TripleSignsModel", "six", "[I", true)
  | 14 => ("TripleSignsModel", "by", "[I", true)
  | 15 => ("TripleSignsModel", "signs", "[I", true)
  | 16 => ("TripleSignsModel", "why", "[J", true)
  | 17 => ("TripleSignsModel", "open", "[I", true)
  | 18 => ("TripleSignsModel", "sets", "[I", true)
  | 19 => ("TripleSignsModel", "best", "[I", true)
  | 20 => ("TripleSignsModel", "at", "I", false)
  | 21 => ("TripleSignsModel", "word", "I", false)
  | 22 => ("TripleSignsModel", "names", "[I", true)
  | _ => ("TripleSignsModel", "h", "J", false)
def tyX4 : Nat → FieldType := fun k => match k with
  | 0 => .array .int
  | 1 => .array .int
  | 2 => .array .int
  | 3 => .int
  | 4 => .array .int
  | 5 => .int
  | 6 => .int
  | 7 => .array .int
  | 8 => .array .int
  | 9 => .int
  | 10 => .array .int
  | 11 => .int
  | 12 => .int
  | 13 => .array .int
  | 14 => .array .int
  | 15 => .array .int
  | 16 => .array .long
  | 17 => .array .int
  | 18 => .array .int
  | 19 => .array .int
  | 20 => .int
  | 21 => .int
  | 22 => .array .int
  | _ => .long
abbrev wsX40 : List Cond := u_ws RX4 TX4 24
theorem nmX4 : ∀ a, a < 24 → ∀ b, b < 24 → a ≠ b → (TX4 a).2.1 ≠ (TX4 b).2.1 := by decide +kernel
theorem tyX4_ok : ∀ k, k < 24 → parseFieldDescriptor (TX4 k).2.2.1 = some (tyX4 k) := by decide +kernel
abbrev cX4_init : ByteArray := prog_6_method_1_code
def yX4_init : MethodName := ⟨RX4, "<init>", "()V"⟩
abbrev cX4_thrown : ByteArray := prog_6_method_2_code
def yX4_thrown : MethodName := ⟨RX4, "thrown", "()I"⟩
abbrev cX4_in : ByteArray := prog_6_method_3_code
def yX4_in : MethodName := ⟨RX4, "in", "(III)Z"⟩
abbrev cX4_fails : ByteArray := prog_6_method_4_code
def yX4_fails : MethodName := ⟨RX4, "fails", "(I)I"⟩
abbrev cX4_tells : ByteArray := prog_6_method_5_code
def yX4_tells : MethodName := ⟨RX4, "tells", "(I)I"⟩
abbrev cX4_hold : ByteArray := prog_6_method_6_code
def yX4_hold : MethodName := ⟨RX4, "hold", "()V"⟩
abbrev cX4_ends : ByteArray := prog_6_method_7_code
def yX4_ends : MethodName := ⟨RX4, "ends", "(I)I"⟩
abbrev cX4_lays : ByteArray := prog_6_method_8_code
def yX4_lays : MethodName := ⟨RX4, "lays", "()V"⟩
abbrev cX4_laysFrom : ByteArray := prog_6_method_9_code
def yX4_laysFrom : MethodName := ⟨RX4, "laysFrom", "(II)V"⟩
abbrev cX4_begins : ByteArray := prog_6_method_10_code
def yX4_begins : MethodName := ⟨RX4, "begins", "(I)V"⟩
abbrev cX4_get : ByteArray := prog_6_method_11_code
def yX4_get : MethodName := ⟨RX4, "get", "(II)I"⟩
abbrev cX4_puts : ByteArray := prog_6_method_12_code
def yX4_puts : MethodName := ⟨RX4, "puts", "(III)V"⟩
abbrev cX4_clears : ByteArray := prog_6_method_13_code
def yX4_clears : MethodName := ⟨RX4, "clears", "(I)V"⟩
abbrev cX4_isPoint : ByteArray := prog_6_method_14_code
def yX4_isPoint : MethodName := ⟨RX4, "isPoint", "(I)Z"⟩
abbrev cX4_arePoints : ByteArray := prog_6_method_15_code
def yX4_arePoints : MethodName := ⟨RX4, "arePoints", "(III)Z"⟩
abbrev cX4_differ : ByteArray := prog_6_method_16_code
def yX4_differ : MethodName := ⟨RX4, "differ", "(III)Z"⟩
abbrev cX4_tripleOf : ByteArray := prog_6_method_17_code
def yX4_tripleOf : MethodName := ⟨RX4, "tripleOf", "(III)I"⟩
abbrev cX4_parity : ByteArray := prog_6_method_18_code
def yX4_parity : MethodName := ⟨RX4, "parity", "(III)I"⟩
abbrev cX4_signOf : ByteArray := prog_6_method_19_code
def yX4_signOf : MethodName := ⟨RX4, "signOf", "(III)I"⟩
abbrev cX4_many : ByteArray := prog_6_method_20_code
def yX4_many : MethodName := ⟨RX4, "many", "(I)I"⟩
abbrev cX4_forgets : ByteArray := prog_6_method_21_code
def yX4_forgets : MethodName := ⟨RX4, "forgets", "()I"⟩
abbrev cX4_begin : ByteArray := prog_6_method_22_code
def yX4_begin : MethodName := ⟨RX4, "begin", "(I)I"⟩
abbrev cX4_gives : ByteArray := prog_6_method_23_code
def yX4_gives : MethodName := ⟨RX4, "gives", "(II)V"⟩
abbrev cX4_givesTo : ByteArray := prog_6_method_24_code
def yX4_givesTo : MethodName := ⟨RX4, "givesTo", "(IIII)I"⟩
abbrev cX4_drops : ByteArray := prog_6_method_25_code
def yX4_drops : MethodName := ⟨RX4, "drops", "(III)I"⟩
abbrev cX4_done : ByteArray := prog_6_method_26_code
def yX4_done : MethodName := ⟨RX4, "done", "(I)I"⟩
abbrev cX4_give : ByteArray := prog_6_method_27_code
def yX4_give : MethodName := ⟨RX4, "give", "(IIII)I"⟩
abbrev cX4_drop : ByteArray := prog_6_method_28_code
def yX4_drop : MethodName := ⟨RX4, "drop", "(III)I"⟩
abbrev cX4_setUniform : ByteArray := prog_6_method_29_code
def yX4_setUniform : MethodName := ⟨RX4, "setUniform", "(Z)Z"⟩
abbrev cX4_looks : ByteArray := prog_6_method_30_code
def yX4_looks : MethodName := ⟨RX4, "looks", "(IIII)V"⟩
abbrev cX4_looksAt : ByteArray := prog_6_method_31_code
def yX4_looksAt : MethodName := ⟨RX4, "looksAt", "(I)V"⟩
abbrev cX4_unknowns : ByteArray := prog_6_method_32_code
def yX4_unknowns : MethodName := ⟨RX4, "unknowns", "()I"⟩
abbrev cX4_isFulfilled : ByteArray := prog_6_method_33_code
def yX4_isFulfilled : MethodName := ⟨RX4, "isFulfilled", "(I)Z"⟩
abbrev cX4_tries : ByteArray := prog_6_method_34_code
def yX4_tries : MethodName := ⟨RX4, "tries", "(I)I"⟩
abbrev cX4_derives : ByteArray := prog_6_method_35_code
def yX4_derives : MethodName := ⟨RX4, "derives", "()I"⟩
abbrev cX4_derive : ByteArray := prog_6_method_36_code
def yX4_derive : MethodName := ⟨RX4, "derive", "()I"⟩
abbrev cX4_forget : ByteArray := prog_6_method_37_code
def yX4_forget : MethodName := ⟨RX4, "forget", "()I"⟩
abbrev cX4_flips : ByteArray := prog_6_method_38_code
def yX4_flips : MethodName := ⟨RX4, "flips", "(I)I"⟩
abbrev cX4_mirror : ByteArray := prog_6_method_39_code
def yX4_mirror : MethodName := ⟨RX4, "mirror", "()I"⟩
abbrev cX4_turn : ByteArray := prog_6_method_40_code
def yX4_turn : MethodName := ⟨RX4, "turn", "(I)I"⟩
abbrev cX4_exchanged : ByteArray := prog_6_method_41_code
def yX4_exchanged : MethodName := ⟨RX4, "exchanged", "(III)I"⟩
abbrev cX4_exchange : ByteArray := prog_6_method_42_code
def yX4_exchange : MethodName := ⟨RX4, "exchange", "(II)I"⟩
abbrev cX4_sign : ByteArray := prog_6_method_43_code
def yX4_sign : MethodName := ⟨RX4, "sign", "(III)I"⟩
abbrev cX4_isTriple : ByteArray := prog_6_method_44_code
def yX4_isTriple : MethodName := ⟨RX4, "isTriple", "(I)Z"⟩
abbrev cX4_value : ByteArray := prog_6_method_45_code
def yX4_value : MethodName := ⟨RX4, "value", "(II)I"⟩
abbrev cX4_triple : ByteArray := prog_6_method_46_code
def yX4_triple : MethodName := ⟨RX4, "triple", "(II)I"⟩
abbrev cX4_whyRelation : ByteArray := prog_6_method_47_code
def yX4_whyRelation : MethodName := ⟨RX4, "whyRelation", "(I)J"⟩
abbrev cX4_laysReasons : ByteArray := prog_6_method_48_code
def yX4_laysReasons : MethodName := ⟨RX4, "laysReasons", "()V"⟩
abbrev cX4_reasons : ByteArray := prog_6_method_49_code
def yX4_reasons : MethodName := ⟨RX4, "reasons", "(I)J"⟩
abbrev cX4_state : ByteArray := prog_6_method_50_code
def yX4_state : MethodName := ⟨RX4, "state", "(I)I"⟩
abbrev cX4_stated : ByteArray := prog_6_method_51_code
def yX4_stated : MethodName := ⟨RX4, "stated", "(Z)I"⟩
abbrev cX4_counted : ByteArray := prog_6_method_52_code
def yX4_counted : MethodName := ⟨RX4, "counted", "(I)I"⟩
abbrev cX4_count : ByteArray := prog_6_method_53_code
def yX4_count : MethodName := ⟨RX4, "count", "(I)I"⟩
abbrev cX4_isRelation : ByteArray := prog_6_method_54_code
def yX4_isRelation : MethodName := ⟨RX4, "isRelation", "(I)Z"⟩
abbrev cX4_relationValue : ByteArray := prog_6_method_55_code
def yX4_relationValue : MethodName := ⟨RX4, "relationValue", "(II)I"⟩
abbrev cX4_relation : ByteArray := prog_6_method_56_code
def yX4_relation : MethodName := ⟨RX4, "relation", "(II)I"⟩
abbrev cX4_behind : ByteArray := prog_6_method_57_code
def yX4_behind : MethodName := ⟨RX4, "behind", "(I)J"⟩
abbrev cX4_completions : ByteArray := prog_6_method_58_code
def yX4_completions : MethodName := ⟨RX4, "completions", "()I"⟩
abbrev cX4_cocircuit : ByteArray := prog_6_method_59_code
def yX4_cocircuit : MethodName := ⟨RX4, "cocircuit", "(II)I"⟩
abbrev cX4_extreme : ByteArray := prog_6_method_60_code
def yX4_extreme : MethodName := ⟨RX4, "extreme", "(I)Z"⟩
abbrev cX4_isExtreme : ByteArray := prog_6_method_61_code
def yX4_isExtreme : MethodName := ⟨RX4, "isExtreme", "(I)Z"⟩
abbrev cX4_lineOf : ByteArray := prog_6_method_62_code
def yX4_lineOf : MethodName := ⟨RX4, "lineOf", "(II)I"⟩
abbrev cX4_lines : ByteArray := prog_6_method_63_code
def yX4_lines : MethodName := ⟨RX4, "lines", "()I"⟩
abbrev cX4_isPlaced : ByteArray := prog_6_method_64_code
def yX4_isPlaced : MethodName := ⟨RX4, "isPlaced", "(I)Z"⟩
abbrev cX4_place : ByteArray := prog_6_method_65_code
def yX4_place : MethodName := ⟨RX4, "place", "(III)Z"⟩
abbrev cX4_coordinate : ByteArray := prog_6_method_66_code
def yX4_coordinate : MethodName := ⟨RX4, "coordinate", "(II)I"⟩
abbrev cX4_isSeen : ByteArray := prog_6_method_67_code
def yX4_isSeen : MethodName := ⟨RX4, "isSeen", "(I)Z"⟩
abbrev cX4_apart : ByteArray := prog_6_method_68_code
def yX4_apart : MethodName := ⟨RX4, "apart", "(III)I"⟩
abbrev cX4_signSeen : ByteArray := prog_6_method_69_code
def yX4_signSeen : MethodName := ⟨RX4, "signSeen", "(I)I"⟩
abbrev cX4_read : ByteArray := prog_6_method_70_code
def yX4_read : MethodName := ⟨RX4, "read", "()I"⟩
abbrev cX4_wrong : ByteArray := prog_6_method_71_code
def yX4_wrong : MethodName := ⟨RX4, "wrong", "()I"⟩
abbrev cX4_mismatches : ByteArray := prog_6_method_72_code
def yX4_mismatches : MethodName := ⟨RX4, "mismatches", "()I"⟩
abbrev cX4_scatter : ByteArray := prog_6_method_73_code
def yX4_scatter : MethodName := ⟨RX4, "scatter", "(III)I"⟩
abbrev cX4_type : ByteArray := prog_6_method_74_code
def yX4_type : MethodName := ⟨RX4, "type", "(I)I"⟩
abbrev cX4_clearScript : ByteArray := prog_6_method_75_code
def yX4_clearScript : MethodName := ⟨RX4, "clearScript", "()I"⟩
abbrev cX4_isAt : ByteArray := prog_6_method_76_code
def yX4_isAt : MethodName := ⟨RX4, "isAt", "(II)Z"⟩
abbrev cX4_skips : ByteArray := prog_6_method_77_code
def yX4_skips : MethodName := ⟨RX4, "skips", "()Z"⟩
abbrev cX4_wordOf : ByteArray := prog_6_method_78_code
def yX4_wordOf : MethodName := ⟨RX4, "wordOf", "(JI)I"⟩
abbrev cX4_isCommand : ByteArray := prog_6_method_79_code
def yX4_isCommand : MethodName := ⟨RX4, "isCommand", "()Z"⟩
abbrev cX4_areNames : ByteArray := prog_6_method_80_code
def yX4_areNames : MethodName := ⟨RX4, "areNames", "()Z"⟩
abbrev cX4_does : ByteArray := prog_6_method_81_code
def yX4_does : MethodName := ⟨RX4, "does", "()I"⟩
abbrev cX4_run : ByteArray := prog_6_method_82_code
def yX4_run : MethodName := ⟨RX4, "run", "()I"⟩
abbrev cX4_letterOf : ByteArray := prog_6_method_83_code
def yX4_letterOf : MethodName := ⟨RX4, "letterOf", "(II)I"⟩
abbrev cX4_written : ByteArray := prog_6_method_84_code
def yX4_written : MethodName := ⟨RX4, "written", "(I)I"⟩
abbrev cX4_undo : ByteArray := prog_6_method_85_code
def yX4_undo : MethodName := ⟨RX4, "undo", "()I"⟩
abbrev cX4_mix : ByteArray := prog_6_method_86_code
def yX4_mix : MethodName := ⟨RX4, "mix", "(J)V"⟩
abbrev cX4_digest : ByteArray := prog_6_method_87_code
def yX4_digest : MethodName := ⟨RX4, "digest", "()J"⟩
def RJx145de : String := "java/io/Serializable"
def TJx145de : u_T := fun k => match k with
  | _ => ("", "", "", false)
def tyJx145de : Nat → FieldType := fun k => match k with
  | _ => .int
abbrev wsJx145de0 : List Cond := u_ws RJx145de TJx145de 0
theorem nmJx145de : ∀ a, a < 0 → ∀ b, b < 0 → a ≠ b → (TJx145de a).2.1 ≠ (TJx145de b).2.1 := by decide +kernel
theorem tyJx145de_ok : ∀ k, k < 0 → parseFieldDescriptor (TJx145de k).2.2.1 = some (tyJx145de k) := by decide +kernel
def RJx9f9b0 : String := "java/lang/CharSequence"
def TJx9f9b0 : u_T := fun k => match k with
  | _ => ("", "", "", false)
def tyJx9f9b0 : Nat → FieldType := fun k => match k with
  | _ => .int
abbrev wsJx9f9b00 : List Cond := u_ws RJx9f9b0 TJx9f9b0 0
theorem nmJx9f9b0 : ∀ a, a < 0 → ∀ b, b < 0 → a ≠ b → (TJx9f9b0 a).2.1 ≠ (TJx9f9b0 b).2.1 := by decide +kernel
theorem tyJx9f9b0_ok : ∀ k, k < 0 → parseFieldDescriptor (TJx9f9b0 k).2.2.1 = some (tyJx9f9b0 k) := by decide +kernel
def RJxb160c : String := "java/lang/Comparable"
def TJxb160c : u_T := fun k => match k with
  | _ => ("", "", "", false)
def tyJxb160c : Nat → FieldType := fun k => match k with
  | _ => .int
abbrev wsJxb160c0 : List Cond := u_ws RJxb160c TJxb160c 0
theorem nmJxb160c : ∀ a, a < 0 → ∀ b, b < 0 → a ≠ b → (TJxb160c a).2.1 ≠ (TJxb160c b).2.1 := by decide +kernel
theorem tyJxb160c_ok : ∀ k, k < 0 → parseFieldDescriptor (TJxb160c k).2.2.1 = some (tyJxb160c k) := by decide +kernel
def RJ6 : String := "java/lang/Integer"
def TJ6 : u_T := fun k => match k with
  | _ => ("", "", "", false)
def tyJ6 : Nat → FieldType := fun k => match k with
  | _ => .int
abbrev wsJ60 : List Cond := u_ws RJ6 TJ6 0
theorem nmJ6 : ∀ a, a < 0 → ∀ b, b < 0 → a ≠ b → (TJ6 a).2.1 ≠ (TJ6 b).2.1 := by decide +kernel
theorem tyJ6_ok : ∀ k, k < 0 → parseFieldDescriptor (TJ6 k).2.2.1 = some (tyJ6 k) := by decide +kernel
abbrev cJ6_compare_7cf53 : ByteArray := prog_11_method_40_code
def yJ6_compare_7cf53 : MethodName := ⟨RJ6, "compare", "(II)I"⟩
def RJ0 : String := "java/lang/String"
def TJ0 : u_T := fun k => match k with
  | _ => ("", "", "", false)
def tyJ0 : Nat → FieldType := fun k => match k with
  | _ => .int
abbrev wsJ00 : List Cond := u_ws RJ0 TJ0 0
theorem nmJ0 : ∀ a, a < 0 → ∀ b, b < 0 → a ≠ b → (TJ0 a).2.1 ≠ (TJ0 b).2.1 := by decide +kernel
theorem tyJ0_ok : ∀ k, k < 0 → parseFieldDescriptor (TJ0 k).2.2.1 = some (tyJ0 k) := by decide +kernel
abbrev cJ0_length_8abf5 : ByteArray := prog_13_method_54_code
def yJ0_length_8abf5 : MethodName := ⟨RJ0, "length", "()I"⟩
abbrev cJ0_charAt_5068e : ByteArray := prog_13_method_56_code
def yJ0_charAt_5068e : MethodName := ⟨RJ0, "charAt", "(I)C"⟩
abbrev cJ0_coder_7d493 : ByteArray := prog_13_method_152_code
def yJ0_coder_7d493 : MethodName := ⟨RJ0, "coder", "()B"⟩
abbrev cJ0_isLatin1_aae02 : ByteArray := prog_13_method_154_code
def yJ0_isLatin1_aae02 : MethodName := ⟨RJ0, "isLatin1", "()Z"⟩
abbrev cJ0_checkIndex_df160 : ByteArray := prog_13_method_155_code
def yJ0_checkIndex_df160 : MethodName := ⟨RJ0, "checkIndex", "(II)V"⟩
def RJ1 : String := "java/lang/StringLatin1"
def TJ1 : u_T := fun k => match k with
  | _ => ("", "", "", false)
def tyJ1 : Nat → FieldType := fun k => match k with
  | _ => .int
abbrev wsJ10 : List Cond := u_ws RJ1 TJ1 0
theorem nmJ1 : ∀ a, a < 0 → ∀ b, b < 0 → a ≠ b → (TJ1 a).2.1 ≠ (TJ1 b).2.1 := by decide +kernel
theorem tyJ1_ok : ∀ k, k < 0 → parseFieldDescriptor (TJ1 k).2.2.1 = some (tyJ1 k) := by decide +kernel
abbrev cJ1_charAt_3b067 : ByteArray := prog_14_method_2_code
def yJ1_charAt_3b067 : MethodName := ⟨RJ1, "charAt", "([BI)C"⟩
def RJ2 : String := "java/lang/StringUTF16"
def TJ2 : u_T := fun k => match k with
  | _ => ("", "", "", false)
def tyJ2 : Nat → FieldType := fun k => match k with
  | _ => .int
abbrev wsJ20 : List Cond := u_ws RJ2 TJ2 0
theorem nmJ2 : ∀ a, a < 0 → ∀ b, b < 0 → a ≠ b → (TJ2 a).2.1 ≠ (TJ2 b).2.1 := by decide +kernel
theorem tyJ2_ok : ∀ k, k < 0 → parseFieldDescriptor (TJ2 k).2.2.1 = some (tyJ2 k) := by decide +kernel
abbrev cJ2_getChar_3b067 : ByteArray := prog_15_method_5_code
def yJ2_getChar_3b067 : MethodName := ⟨RJ2, "getChar", "([BI)C"⟩
abbrev cJ2_length_9d52b : ByteArray := prog_15_method_6_code
def yJ2_length_9d52b : MethodName := ⟨RJ2, "length", "([B)I"⟩
abbrev cJ2_charAt_3b067 : ByteArray := prog_15_method_83_code
def yJ2_charAt_3b067 : MethodName := ⟨RJ2, "charAt", "([BI)C"⟩
abbrev cJ2_checkIndex_2214a : ByteArray := prog_15_method_91_code
def yJ2_checkIndex_2214a : MethodName := ⟨RJ2, "checkIndex", "(I[B)V"⟩
def RJ10 : String := "java/lang/System"
def TJ10 : u_T := fun k => match k with
  | _ => ("", "", "", false)
def tyJ10 : Nat → FieldType := fun k => match k with
  | _ => .int
abbrev wsJ100 : List Cond := u_ws RJ10 TJ10 0
theorem nmJ10 : ∀ a, a < 0 → ∀ b, b < 0 → a ≠ b → (TJ10 a).2.1 ≠ (TJ10 b).2.1 := by decide +kernel
theorem tyJ10_ok : ∀ k, k < 0 → parseFieldDescriptor (TJ10 k).2.2.1 = some (tyJ10 k) := by decide +kernel
def RJxfd54e : String := "java/lang/constant/Constable"
def TJxfd54e : u_T := fun k => match k with
  | _ => ("", "", "", false)
def tyJxfd54e : Nat → FieldType := fun k => match k with
  | _ => .int
abbrev wsJxfd54e0 : List Cond := u_ws RJxfd54e TJxfd54e 0
theorem nmJxfd54e : ∀ a, a < 0 → ∀ b, b < 0 → a ≠ b → (TJxfd54e a).2.1 ≠ (TJxfd54e b).2.1 := by decide +kernel
theorem tyJxfd54e_ok : ∀ k, k < 0 → parseFieldDescriptor (TJxfd54e k).2.2.1 = some (tyJxfd54e k) := by decide +kernel
def RJx3cf43 : String := "java/lang/constant/ConstantDesc"
def TJx3cf43 : u_T := fun k => match k with
  | _ => ("", "", "", false)
def tyJx3cf43 : Nat → FieldType := fun k => match k with
  | _ => .int
abbrev wsJx3cf430 : List Cond := u_ws RJx3cf43 TJx3cf43 0
theorem nmJx3cf43 : ∀ a, a < 0 → ∀ b, b < 0 → a ≠ b → (TJx3cf43 a).2.1 ≠ (TJx3cf43 b).2.1 := by decide +kernel
theorem tyJx3cf43_ok : ∀ k, k < 0 → parseFieldDescriptor (TJx3cf43 k).2.2.1 = some (tyJx3cf43 k) := by decide +kernel
def RJ7 : String := "java/util/Arrays"
def TJ7 : u_T := fun k => match k with
  | _ => ("", "", "", false)
def tyJ7 : Nat → FieldType := fun k => match k with
  | _ => .int
abbrev wsJ70 : List Cond := u_ws RJ7 TJ7 0
theorem nmJ7 : ∀ a, a < 0 → ∀ b, b < 0 → a ≠ b → (TJ7 a).2.1 ≠ (TJ7 b).2.1 := by decide +kernel
theorem tyJ7_ok : ∀ k, k < 0 → parseFieldDescriptor (TJ7 k).2.2.1 = some (tyJ7 k) := by decide +kernel
abbrev cJ7_fill_53178 : ByteArray := prog_18_method_103_code
def yJ7_fill_53178 : MethodName := ⟨RJ7, "fill", "([II)V"⟩
def RJ3 : String := "jdk/internal/util/Preconditions"
def TJ3 : u_T := fun k => match k with
  | _ => ("", "", "", false)
def tyJ3 : Nat → FieldType := fun k => match k with
  | _ => .int
abbrev wsJ30 : List Cond := u_ws RJ3 TJ3 0
theorem nmJ3 : ∀ a, a < 0 → ∀ b, b < 0 → a ≠ b → (TJ3 a).2.1 ≠ (TJ3 b).2.1 := by decide +kernel
theorem tyJ3_ok : ∀ k, k < 0 → parseFieldDescriptor (TJ3 k).2.2.1 = some (tyJ3 k) := by decide +kernel
abbrev cJ3_checkIndex_8e157 : ByteArray := prog_19_method_11_code
def yJ3_checkIndex_8e157 : MethodName := ⟨RJ3, "checkIndex", "(IILjava/util/function/BiFunction;)I"⟩
def RL : String := "TripleSignsLaw"
abbrev cL_begin : ByteArray := method_3_code
def yL_begin : MethodName := ⟨RL, "begin", "(LTripleSigns;I[J)I"⟩
abbrev cL_give : ByteArray := method_4_code
def yL_give : MethodName := ⟨RL, "give", "(LTripleSigns;IIII[J)I"⟩
abbrev cL_drop : ByteArray := method_5_code
def yL_drop : MethodName := ⟨RL, "drop", "(LTripleSigns;III[J)I"⟩
abbrev cL_turn : ByteArray := method_6_code
def yL_turn : MethodName := ⟨RL, "turn", "(LTripleSigns;I[J)I"⟩
abbrev cL_exchange : ByteArray := method_7_code
def yL_exchange : MethodName := ⟨RL, "exchange", "(LTripleSigns;II[J)I"⟩
abbrev cL_sign : ByteArray := method_8_code
def yL_sign : MethodName := ⟨RL, "sign", "(LTripleSigns;III[J)I"⟩
abbrev cL_triple : ByteArray := method_9_code
def yL_triple : MethodName := ⟨RL, "triple", "(LTripleSigns;II[J)I"⟩
abbrev cL_reasons : ByteArray := method_10_code
def yL_reasons : MethodName := ⟨RL, "reasons", "(LTripleSigns;I[J)I"⟩
abbrev cL_count : ByteArray := method_11_code
def yL_count : MethodName := ⟨RL, "count", "(LTripleSigns;I[J)I"⟩
abbrev cL_relation : ByteArray := method_12_code
def yL_relation : MethodName := ⟨RL, "relation", "(LTripleSigns;II[J)I"⟩
abbrev cL_behind : ByteArray := method_13_code
def yL_behind : MethodName := ⟨RL, "behind", "(LTripleSigns;I[J)I"⟩
abbrev cL_completions : ByteArray := method_14_code
def yL_completions : MethodName := ⟨RL, "completions", "(LTripleSigns;[J)I"⟩
abbrev cL_cocircuit : ByteArray := method_15_code
def yL_cocircuit : MethodName := ⟨RL, "cocircuit", "(LTripleSigns;II[J)I"⟩
abbrev cL_isExtreme : ByteArray := method_16_code
def yL_isExtreme : MethodName := ⟨RL, "isExtreme", "(LTripleSigns;I[J)I"⟩
abbrev cL_lines : ByteArray := method_17_code
def yL_lines : MethodName := ⟨RL, "lines", "(LTripleSigns;[J)I"⟩
abbrev cL_place : ByteArray := method_18_code
def yL_place : MethodName := ⟨RL, "place", "(LTripleSigns;III[J)I"⟩
abbrev cL_coordinate : ByteArray := method_19_code
def yL_coordinate : MethodName := ⟨RL, "coordinate", "(LTripleSigns;II[J)I"⟩
abbrev cL_scatter : ByteArray := method_20_code
def yL_scatter : MethodName := ⟨RL, "scatter", "(LTripleSigns;III[J)I"⟩
abbrev cL_type : ByteArray := method_21_code
def yL_type : MethodName := ⟨RL, "type", "(LTripleSigns;I[J)I"⟩
abbrev cL_written : ByteArray := method_22_code
def yL_written : MethodName := ⟨RL, "written", "(LTripleSigns;I[J)I"⟩
abbrev cL_undo : ByteArray := method_23_code
def yL_undo : MethodName := ⟨RL, "undo", "(LTripleSigns;[J)I"⟩
abbrev cL_law : ByteArray := code
def yL_law : MethodName := ⟨RL, "law", "([I)Z"⟩
theorem dX0_init_0 : decode cX0_init 0 = .ok (.aload_n 0, 1) := by decide +kernel
theorem dX0_init_1 : decode cX0_init 1 = .ok (.invokespecial 3, 3) := by decide +kernel
theorem dX0_init_4 : decode cX0_init 4 = .ok (.aload_n 0, 1) := by decide +kernel
theorem dX0_init_5 : decode cX0_init 5 = .ok (.iconst 0, 1) := by decide +kernel
theorem dX0_init_6 : decode cX0_init 6 = .ok (.putfield 9, 3) := by decide +kernel
theorem dX0_init_9 : decode cX0_init 9 = .ok (.aload_n 0, 1) := by decide +kernel
theorem dX0_init_10 : decode cX0_init 10 = .ok (.iconst 0, 1) := by decide +kernel
theorem dX0_init_11 : decode cX0_init 11 = .ok (.putfield 15, 3) := by decide +kernel
theorem dX0_init_14 : decode cX0_init 14 = .ok (.aload_n 0, 1) := by decide +kernel
theorem dX0_init_15 : decode cX0_init 15 = .ok (.iconst 0, 1) := by decide +kernel
theorem dX0_init_16 : decode cX0_init 16 = .ok (.putfield 18, 3) := by decide +kernel
theorem dX0_init_19 : decode cX0_init 19 = .ok (.aload_n 0, 1) := by decide +kernel
theorem dX0_init_20 : decode cX0_init 20 = .ok (.sipush 168, 3) := by decide +kernel
theorem dX0_init_23 : decode cX0_init 23 = .ok (.newarray .int, 2) := by decide +kernel
theorem dX0_init_25 : decode cX0_init 25 = .ok (.putfield 21, 3) := by decide +kernel
theorem dX0_init_28 : decode cX0_init 28 = .ok (.aload_n 0, 1) := by decide +kernel
theorem dX0_init_29 : decode cX0_init 29 = .ok (.sipush 512, 3) := by decide +kernel
theorem dX0_init_32 : decode cX0_init 32 = .ok (.newarray .int, 2) := by decide +kernel
theorem dX0_init_34 : decode cX0_init 34 = .ok (.putfield 25, 3) := by decide +kernel
theorem dX0_init_37 : decode cX0_init 37 = .ok (.aload_n 0, 1) := by decide +kernel
theorem dX0_init_38 : decode cX0_init 38 = .ok (.sipush 512, 3) := by decide +kernel
theorem dX0_init_41 : decode cX0_init 41 = .ok (.newarray .int, 2) := by decide +kernel
theorem dX0_init_43 : decode cX0_init 43 = .ok (.putfield 28, 3) := by decide +kernel
theorem dX0_init_46 : decode cX0_init 46 = .ok (.aload_n 0, 1) := by decide +kernel
theorem dX0_init_47 : decode cX0_init 47 = .ok (.sipush 1400, 3) := by decide +kernel
theorem dX0_init_50 : decode cX0_init 50 = .ok (.newarray .int, 2) := by decide +kernel
theorem dX0_init_52 : decode cX0_init 52 = .ok (.putfield 31, 3) := by decide +kernel
theorem dX0_init_55 : decode cX0_init 55 = .ok (.aload_n 0, 1) := by decide +kernel
theorem dX0_init_56 : decode cX0_init 56 = .ok (.sipush 1680, 3) := by decide +kernel
theorem dX0_init_59 : decode cX0_init 59 = .ok (.newarray .int, 2) := by decide +kernel
theorem dX0_init_61 : decode cX0_init 61 = .ok (.putfield 34, 3) := by decide +kernel
theorem dX0_init_64 : decode cX0_init 64 = .ok (.aload_n 0, 1) := by decide +kernel
theorem dX0_init_65 : decode cX0_init 65 = .ok (.sipush 840, 3) := by decide +kernel
theorem dX0_init_68 : decode cX0_init 68 = .ok (.newarray .int, 2) := by decide +kernel
theorem dX0_init_70 : decode cX0_init 70 = .ok (.putfield 37, 3) := by decide +kernel
theorem dX0_init_73 : decode cX0_init 73 = .ok (.aload_n 0, 1) := by decide +kernel
theorem dX0_init_74 : decode cX0_init 74 = .ok (.sipush 280, 3) := by decide +kernel
theorem dX0_init_77 : decode cX0_init 77 = .ok (.newarray .long, 2) := by decide +kernel
theorem dX0_init_79 : decode cX0_init 79 = .ok (.putfield 40, 3) := by decide +kernel
theorem dX0_init_82 : decode cX0_init 82 = .ok (.return_, 1) := by decide +kernel
theorem dX0_arrange_0 : decode cX0_arrange 0 = .ok (.aload_n 0, 1) := by decide +kernel
theorem dX0_arrange_1 : decode cX0_arrange 1 = .ok (.iload_n 1, 1) := by decide +kernel
theorem dX0_arrange_2 : decode cX0_arrange 2 = .ok (.putfield 9, 3) := by decide +kernel
theorem dX0_arrange_5 : decode cX0_arrange 5 = .ok (.aload_n 0, 1) := by decide +kernel
theorem dX0_arrange_6 : decode cX0_arrange 6 = .ok (.invokevirtual 44, 3) := by decide +kernel
theorem dX0_arrange_9 : decode cX0_arrange 9 = .ok (.aload_n 0, 1) := by decide +kernel
theorem dX0_arrange_10 : decode cX0_arrange 10 = .ok (.iconst 0, 1) := by decide +kernel
theorem dX0_arrange_11 : decode cX0_arrange 11 = .ok (.putfield 18, 3) := by decide +kernel
theorem dX0_arrange_14 : decode cX0_arrange 14 = .ok (.iconst 0, 1) := by decide +kernel
theorem dX0_arrange_15 : decode cX0_arrange 15 = .ok (.istore_n 2, 1) := by decide +kernel
theorem dX0_arrange_16 : decode cX0_arrange 16 = .ok (.iload_n 2, 1) := by decide +kernel
theorem dX0_arrange_17 : decode cX0_arrange 17 = .ok (.aload_n 0, 1) := by decide +kernel
theorem dX0_arrange_18 : decode cX0_arrange 18 = .ok (.getfield 9, 3) := by decide +kernel
theorem dX0_arrange_21 : decode cX0_arrange 21 = .ok (.if_icmp .ge 14, 3) := by decide +kernel
theorem dX0_arrange_24 : decode cX0_arrange 24 = .ok (.aload_n 0, 1) := by decide +kernel
theorem dX0_arrange_25 : decode cX0_arrange 25 = .ok (.iload_n 2, 1) := by decide +kernel
theorem dX0_arrange_26 : decode cX0_arrange 26 = .ok (.invokevirtual 47, 3) := by decide +kernel
theorem dX0_arrange_29 : decode cX0_arrange 29 = .ok (.iinc 2 1, 3) := by decide +kernel
theorem dX0_arrange_32 : decode cX0_arrange 32 = .ok (.goto (-16), 3) := by decide +kernel
theorem dX0_arrange_35 : decode cX0_arrange 35 = .ok (.return_, 1) := by decide +kernel
theorem dX0_arrangeTriples_0 : decode cX0_arrangeTriples 0 = .ok (.aload_n 0, 1) := by decide +kernel
theorem dX0_arrangeTriples_1 : decode cX0_arrangeTriples 1 = .ok (.iconst 0, 1) := by decide +kernel
theorem dX0_arrangeTriples_2 : decode cX0_arrangeTriples 2 = .ok (.putfield 15, 3) := by decide +kernel
theorem dX0_arrangeTriples_5 : decode cX0_arrangeTriples 5 = .ok (.iconst 0, 1) := by decide +kernel
theorem dX0_arrangeTriples_6 : decode cX0_arrangeTriples 6 = .ok (.istore_n 1, 1) := by decide +kernel
theorem dX0_arrangeTriples_7 : decode cX0_arrangeTriples 7 = .ok (.iload_n 1, 1) := by decide +kernel
theorem dX0_arrangeTriples_8 : decode cX0_arrangeTriples 8 = .ok (.aload_n 0, 1) := by decide +kernel
theorem dX0_arrangeTriples_9 : decode cX0_arrangeTriples 9 = .ok (.getfield 9, 3) := by decide +kernel
theorem dX0_arrangeTriples_12 : decode cX0_arrangeTriples 12 = .ok (.if_icmp .ge 52, 3) := by decide +kernel
theorem dX0_arrangeTriples_15 : decode cX0_arrangeTriples 15 = .ok (.iload_n 1, 1) := by decide +kernel
theorem dX0_arrangeTriples_16 : decode cX0_arrangeTriples 16 = .ok (.iconst 1, 1) := by decide +kernel
theorem dX0_arrangeTriples_17 : decode cX0_arrangeTriples 17 = .ok (.iadd, 1) := by decide +kernel
theorem dX0_arrangeTriples_18 : decode cX0_arrangeTriples 18 = .ok (.istore_n 2, 1) := by decide +kernel
theorem dX0_arrangeTriples_19 : decode cX0_arrangeTriples 19 = .ok (.iload_n 2, 1) := by decide +kernel
theorem dX0_arrangeTriples_20 : decode cX0_arrangeTriples 20 = .ok (.aload_n 0, 1) := by decide +kernel
theorem dX0_arrangeTriples_21 : decode cX0_arrangeTriples 21 = .ok (.getfield 9, 3) := by decide +kernel
theorem dX0_arrangeTriples_24 : decode cX0_arrangeTriples 24 = .ok (.if_icmp .ge 34, 3) := by decide +kernel
theorem dX0_arrangeTriples_27 : decode cX0_arrangeTriples 27 = .ok (.iload_n 2, 1) := by decide +kernel
theorem dX0_arrangeTriples_28 : decode cX0_arrangeTriples 28 = .ok (.iconst 1, 1) := by decide +kernel
theorem dX0_arrangeTriples_29 : decode cX0_arrangeTriples 29 = .ok (.iadd, 1) := by decide +kernel
theorem dX0_arrangeTriples_30 : decode cX0_arrangeTriples 30 = .ok (.istore_n 3, 1) := by decide +kernel
theorem dX0_arrangeTriples_31 : decode cX0_arrangeTriples 31 = .ok (.iload_n 3, 1) := by decide +kernel
theorem dX0_arrangeTriples_32 : decode cX0_arrangeTriples 32 = .ok (.aload_n 0, 1) := by decide +kernel
theorem dX0_arrangeTriples_33 : decode cX0_arrangeTriples 33 = .ok (.getfield 9, 3) := by decide +kernel
theorem dX0_arrangeTriples_36 : decode cX0_arrangeTriples 36 = .ok (.if_icmp .ge 16, 3) := by decide +kernel
theorem dX0_arrangeTriples_39 : decode cX0_arrangeTriples 39 = .ok (.aload_n 0, 1) := by decide +kernel
theorem dX0_arrangeTriples_40 : decode cX0_arrangeTriples 40 = .ok (.iload_n 1, 1) := by decide +kernel
theorem dX0_arrangeTriples_41 : decode cX0_arrangeTriples 41 = .ok (.iload_n 2, 1) := by decide +kernel
theorem dX0_arrangeTriples_42 : decode cX0_arrangeTriples 42 = .ok (.iload_n 3, 1) := by decide +kernel
theorem dX0_arrangeTriples_43 : decode cX0_arrangeTriples 43 = .ok (.invokevirtual 51, 3) := by decide +kernel
theorem dX0_arrangeTriples_46 : decode cX0_arrangeTriples 46 = .ok (.iinc 3 1, 3) := by decide +kernel
theorem dX0_arrangeTriples_49 : decode cX0_arrangeTriples 49 = .ok (.goto (-18), 3) := by decide +kernel
theorem dX0_arrangeTriples_52 : decode cX0_arrangeTriples 52 = .ok (.iinc 2 1, 3) := by decide +kernel
theorem dX0_arrangeTriples_55 : decode cX0_arrangeTriples 55 = .ok (.goto (-36), 3) := by decide +kernel
theorem dX0_arrangeTriples_58 : decode cX0_arrangeTriples 58 = .ok (.iinc 1 1, 3) := by decide +kernel
theorem dX0_arrangeTriples_61 : decode cX0_arrangeTriples 61 = .ok (.goto (-54), 3) := by decide +kernel
theorem dX0_arrangeTriples_64 : decode cX0_arrangeTriples 64 = .ok (.return_, 1) := by decide +kernel
theorem dX0_addTriple_0 : decode cX0_addTriple 0 = .ok (.aload_n 0, 1) := by decide +kernel
theorem dX0_addTriple_1 : decode cX0_addTriple 1 = .ok (.getfield 15, 3) := by decide +kernel
theorem dX0_addTriple_4 : decode cX0_addTriple 4 = .ok (.iconst 3, 1) := by decide +kernel
theorem dX0_addTriple_5 : decode cX0_addTriple 5 = .ok (.imul, 1) := by decide +kernel
theorem dX0_addTriple_6 : decode cX0_addTriple 6 = .ok (.istore 4, 2) := by decide +kernel
theorem dX0_addTriple_8 : decode cX0_addTriple 8 = .ok (.aload_n 0, 1) := by decide +kernel
theorem dX0_addTriple_9 : decode cX0_addTriple 9 = .ok (.getfield 21, 3) := by decide +kernel
theorem dX0_addTriple_12 : decode cX0_addTriple 12 = .ok (.iload 4, 2) := by decide +kernel
theorem dX0_addTriple_14 : decode cX0_addTriple 14 = .ok (.iload_n 1, 1) := by decide +kernel
theorem dX0_addTriple_15 : decode cX0_addTriple 15 = .ok (.iastore, 1) := by decide +kernel
theorem dX0_addTriple_16 : decode cX0_addTriple 16 = .ok (.aload_n 0, 1) := by decide +kernel
theorem dX0_addTriple_17 : decode cX0_addTriple 17 = .ok (.getfield 21, 3) := by decide +kernel
theorem dX0_addTriple_20 : decode cX0_addTriple 20 = .ok (.iload 4, 2) := by decide +kernel
theorem dX0_addTriple_22 : decode cX0_addTriple 22 = .ok (.iconst 1, 1) := by decide +kernel
theorem dX0_addTriple_23 : decode cX0_addTriple 23 = .ok (.iadd, 1) := by decide +kernel
theorem dX0_addTriple_24 : decode cX0_addTriple 24 = .ok (.iload_n 2, 1) := by decide +kernel
theorem dX0_addTriple_25 : decode cX0_addTriple 25 = .ok (.iastore, 1) := by decide +kernel
theorem dX0_addTriple_26 : decode cX0_addTriple 26 = .ok (.aload_n 0, 1) := by decide +kernel
theorem dX0_addTriple_27 : decode cX0_addTriple 27 = .ok (.getfield 21, 3) := by decide +kernel
theorem dX0_addTriple_30 : decode cX0_addTriple 30 = .ok (.iload 4, 2) := by decide +kernel
theorem dX0_addTriple_32 : decode cX0_addTriple 32 = .ok (.iconst 2, 1) := by decide +kernel
theorem dX0_addTriple_33 : decode cX0_addTriple 33 = .ok (.iadd, 1) := by decide +kernel
theorem dX0_addTriple_34 : decode cX0_addTriple 34 = .ok (.iload_n 3, 1) := by decide +kernel
theorem dX0_addTriple_35 : decode cX0_addTriple 35 = .ok (.iastore, 1) := by decide +kernel
theorem dX0_addTriple_36 : decode cX0_addTriple 36 = .ok (.aload_n 0, 1) := by decide +kernel
theorem dX0_addTriple_37 : decode cX0_addTriple 37 = .ok (.iload_n 1, 1) := by decide +kernel
theorem dX0_addTriple_38 : decode cX0_addTriple 38 = .ok (.iload_n 2, 1) := by decide +kernel
theorem dX0_addTriple_39 : decode cX0_addTriple 39 = .ok (.iload_n 3, 1) := by decide +kernel
theorem dX0_addTriple_40 : decode cX0_addTriple 40 = .ok (.iconst 1, 1) := by decide +kernel
theorem dX0_addTriple_41 : decode cX0_addTriple 41 = .ok (.invokevirtual 55, 3) := by decide +kernel
theorem dX0_addTriple_44 : decode cX0_addTriple 44 = .ok (.aload_n 0, 1) := by decide +kernel
theorem dX0_addTriple_45 : decode cX0_addTriple 45 = .ok (.iload_n 2, 1) := by decide +kernel
theorem dX0_addTriple_46 : decode cX0_addTriple 46 = .ok (.iload_n 3, 1) := by decide +kernel
theorem dX0_addTriple_47 : decode cX0_addTriple 47 = .ok (.iload_n 1, 1) := by decide +kernel
theorem dX0_addTriple_48 : decode cX0_addTriple 48 = .ok (.iconst 1, 1) := by decide +kernel
theorem dX0_addTriple_49 : decode cX0_addTriple 49 = .ok (.invokevirtual 55, 3) := by decide +kernel
theorem dX0_addTriple_52 : decode cX0_addTriple 52 = .ok (.aload_n 0, 1) := by decide +kernel
theorem dX0_addTriple_53 : decode cX0_addTriple 53 = .ok (.iload_n 3, 1) := by decide +kernel
theorem dX0_addTriple_54 : decode cX0_addTriple 54 = .ok (.iload_n 1, 1) := by decide +kernel
theorem dX0_addTriple_55 : decode cX0_addTriple 55 = .ok (.iload_n 2, 1) := by decide +kernel
theorem dX0_addTriple_56 : decode cX0_addTriple 56 = .ok (.iconst 1, 1) := by decide +kernel
theorem dX0_addTriple_57 : decode cX0_addTriple 57 = .ok (.invokevirtual 55, 3) := by decide +kernel
theorem dX0_addTriple_60 : decode cX0_addTriple 60 = .ok (.aload_n 0, 1) := by decide +kernel
theorem dX0_addTriple_61 : decode cX0_addTriple 61 = .ok (.iload_n 1, 1) := by decide +kernel
theorem dX0_addTriple_62 : decode cX0_addTriple 62 = .ok (.iload_n 3, 1) := by decide +kernel
theorem dX0_addTriple_63 : decode cX0_addTriple 63 = .ok (.iload_n 2, 1) := by decide +kernel
theorem dX0_addTriple_64 : decode cX0_addTriple 64 = .ok (.iconst (-1), 1) := by decide +kernel
theorem dX0_addTriple_65 : decode cX0_addTriple 65 = .ok (.invokevirtual 55, 3) := by decide +kernel
theorem dX0_addTriple_68 : decode cX0_addTriple 68 = .ok (.aload_n 0, 1) := by decide +kernel
theorem dX0_addTriple_69 : decode cX0_addTriple 69 = .ok (.iload_n 3, 1) := by decide +kernel
theorem dX0_addTriple_70 : decode cX0_addTriple 70 = .ok (.iload_n 2, 1) := by decide +kernel
theorem dX0_addTriple_71 : decode cX0_addTriple 71 = .ok (.iload_n 1, 1) := by decide +kernel
theorem dX0_addTriple_72 : decode cX0_addTriple 72 = .ok (.iconst (-1), 1) := by decide +kernel
theorem dX0_addTriple_73 : decode cX0_addTriple 73 = .ok (.invokevirtual 55, 3) := by decide +kernel
theorem dX0_addTriple_76 : decode cX0_addTriple 76 = .ok (.aload_n 0, 1) := by decide +kernel
theorem dX0_addTriple_77 : decode cX0_addTriple 77 = .ok (.iload_n 2, 1) := by decide +kernel
theorem dX0_addTriple_78 : decode cX0_addTriple 78 = .ok (.iload_n 1, 1) := by decide +kernel
theorem dX0_addTriple_79 : decode cX0_addTriple 79 = .ok (.iload_n 3, 1) := by decide +kernel
theorem dX0_addTriple_80 : decode cX0_addTriple 80 = .ok (.iconst (-1), 1) := by decide +kernel
theorem dX0_addTriple_81 : decode cX0_addTriple 81 = .ok (.invokevirtual 55, 3) := by decide +kernel
theorem dX0_addTriple_84 : decode cX0_addTriple 84 = .ok (.aload_n 0, 1) := by decide +kernel
theorem dX0_addTriple_85 : decode cX0_addTriple 85 = .ok (.dup, 1) := by decide +kernel
theorem dX0_addTriple_86 : decode cX0_addTriple 86 = .ok (.getfield 15, 3) := by decide +kernel
theorem dX0_addTriple_89 : decode cX0_addTriple 89 = .ok (.iconst 1, 1) := by decide +kernel
theorem dX0_addTriple_90 : decode cX0_addTriple 90 = .ok (.iadd, 1) := by decide +kernel
theorem dX0_addTriple_91 : decode cX0_addTriple 91 = .ok (.putfield 15, 3) := by decide +kernel
theorem dX0_addTriple_94 : decode cX0_addTriple 94 = .ok (.return_, 1) := by decide +kernel
theorem dX0_enter_0 : decode cX0_enter 0 = .ok (.aload_n 0, 1) := by decide +kernel
theorem dX0_enter_1 : decode cX0_enter 1 = .ok (.getfield 25, 3) := by decide +kernel
theorem dX0_enter_4 : decode cX0_enter 4 = .ok (.iload_n 1, 1) := by decide +kernel
theorem dX0_enter_5 : decode cX0_enter 5 = .ok (.iload_n 2, 1) := by decide +kernel
theorem dX0_enter_6 : decode cX0_enter 6 = .ok (.iload_n 3, 1) := by decide +kernel
theorem dX0_enter_7 : decode cX0_enter 7 = .ok (.invokestatic 59, 3) := by decide +kernel
theorem dX0_enter_10 : decode cX0_enter 10 = .ok (.aload_n 0, 1) := by decide +kernel
theorem dX0_enter_11 : decode cX0_enter 11 = .ok (.getfield 15, 3) := by decide +kernel
theorem dX0_enter_14 : decode cX0_enter 14 = .ok (.iastore, 1) := by decide +kernel
theorem dX0_enter_15 : decode cX0_enter 15 = .ok (.aload_n 0, 1) := by decide +kernel
theorem dX0_enter_16 : decode cX0_enter 16 = .ok (.getfield 28, 3) := by decide +kernel
theorem dX0_enter_19 : decode cX0_enter 19 = .ok (.iload_n 1, 1) := by decide +kernel
theorem dX0_enter_20 : decode cX0_enter 20 = .ok (.iload_n 2, 1) := by decide +kernel
theorem dX0_enter_21 : decode cX0_enter 21 = .ok (.iload_n 3, 1) := by decide +kernel
theorem dX0_enter_22 : decode cX0_enter 22 = .ok (.invokestatic 59, 3) := by decide +kernel
theorem dX0_enter_25 : decode cX0_enter 25 = .ok (.iload 4, 2) := by decide +kernel
theorem dX0_enter_27 : decode cX0_enter 27 = .ok (.iastore, 1) := by decide +kernel
theorem dX0_enter_28 : decode cX0_enter 28 = .ok (.return_, 1) := by decide +kernel
theorem dX0_arrangeRelations_0 : decode cX0_arrangeRelations 0 = .ok (.iconst 0, 1) := by decide +kernel
theorem dX0_arrangeRelations_1 : decode cX0_arrangeRelations 1 = .ok (.istore_n 2, 1) := by decide +kernel
theorem dX0_arrangeRelations_2 : decode cX0_arrangeRelations 2 = .ok (.iload_n 2, 1) := by decide +kernel
theorem dX0_arrangeRelations_3 : decode cX0_arrangeRelations 3 = .ok (.aload_n 0, 1) := by decide +kernel
theorem dX0_arrangeRelations_4 : decode cX0_arrangeRelations 4 = .ok (.getfield 9, 3) := by decide +kernel
theorem dX0_arrangeRelations_7 : decode cX0_arrangeRelations 7 = .ok (.if_icmp .ge 101, 3) := by decide +kernel
theorem dX0_arrangeRelations_10 : decode cX0_arrangeRelations 10 = .ok (.iload_n 2, 1) := by decide +kernel
theorem dX0_arrangeRelations_11 : decode cX0_arrangeRelations 11 = .ok (.iconst 1, 1) := by decide +kernel
theorem dX0_arrangeRelations_12 : decode cX0_arrangeRelations 12 = .ok (.iadd, 1) := by decide +kernel
theorem dX0_arrangeRelations_13 : decode cX0_arrangeRelations 13 = .ok (.istore_n 3, 1) := by decide +kernel
theorem dX0_arrangeRelations_14 : decode cX0_arrangeRelations 14 = .ok (.iload_n 3, 1) := by decide +kernel
theorem dX0_arrangeRelations_15 : decode cX0_arrangeRelations 15 = .ok (.aload_n 0, 1) := by decide +kernel
theorem dX0_arrangeRelations_16 : decode cX0_arrangeRelations 16 = .ok (.getfield 9, 3) := by decide +kernel
theorem dX0_arrangeRelations_19 : decode cX0_arrangeRelations 19 = .ok (.if_icmp .ge 83, 3) := by decide +kernel
theorem dX0_arrangeRelations_22 : decode cX0_arrangeRelations 22 = .ok (.iload_n 3, 1) := by decide +kernel
theorem dX0_arrangeRelations_23 : decode cX0_arrangeRelations 23 = .ok (.iconst 1, 1) := by decide +kernel
theorem dX0_arrangeRelations_24 : decode cX0_arrangeRelations 24 = .ok (.iadd, 1) := by decide +kernel
theorem dX0_arrangeRelations_25 : decode cX0_arrangeRelations 25 = .ok (.istore 4, 2) := by decide +kernel
theorem dX0_arrangeRelations_27 : decode cX0_arrangeRelations 27 = .ok (.iload 4, 2) := by decide +kernel
theorem dX0_arrangeRelations_29 : decode cX0_arrangeRelations 29 = .ok (.aload_n 0, 1) := by decide +kernel
theorem dX0_arrangeRelations_30 : decode cX0_arrangeRelations 30 = .ok (.getfield 9, 3) := by decide +kernel
theorem dX0_arrangeRelations_33 : decode cX0_arrangeRelations 33 = .ok (.if_icmp .ge 63, 3) := by decide +kernel
theorem dX0_arrangeRelations_36 : decode cX0_arrangeRelations 36 = .ok (.iload 4, 2) := by decide +kernel
theorem dX0_arrangeRelations_38 : decode cX0_arrangeRelations 38 = .ok (.iconst 1, 1) := by decide +kernel
theorem dX0_arrangeRelations_39 : decode cX0_arrangeRelations 39 = .ok (.iadd, 1) := by decide +kernel
theorem dX0_arrangeRelations_40 : decode cX0_arrangeRelations 40 = .ok (.istore 5, 2) := by decide +kernel
theorem dX0_arrangeRelations_42 : decode cX0_arrangeRelations 42 = .ok (.iload 5, 2) := by decide +kernel
theorem dX0_arrangeRelations_44 : decode cX0_arrangeRelations 44 = .ok (.aload_n 0, 1) := by decide +kernel
theorem dX0_arrangeRelations_45 : decode cX0_arrangeRelations 45 = .ok (.getfield 9, 3) := by decide +kernel
theorem dX0_arrangeRelations_48 : decode cX0_arrangeRelations 48 = .ok (.if_icmp .ge 42, 3) := by decide +kernel
theorem dX0_arrangeRelations_51 : decode cX0_arrangeRelations 51 = .ok (.iload_n 2, 1) := by decide +kernel
theorem dX0_arrangeRelations_52 : decode cX0_arrangeRelations 52 = .ok (.iload_n 1, 1) := by decide +kernel
theorem dX0_arrangeRelations_53 : decode cX0_arrangeRelations 53 = .ok (.if_icmp .eq 31, 3) := by decide +kernel
theorem dX0_arrangeRelations_56 : decode cX0_arrangeRelations 56 = .ok (.iload_n 3, 1) := by decide +kernel
theorem dX0_arrangeRelations_57 : decode cX0_arrangeRelations 57 = .ok (.iload_n 1, 1) := by decide +kernel
theorem dX0_arrangeRelations_58 : decode cX0_arrangeRelations 58 = .ok (.if_icmp .eq 26, 3) := by decide +kernel
theorem dX0_arrangeRelations_61 : decode cX0_arrangeRelations 61 = .ok (.iload 4, 2) := by decide +kernel
theorem dX0_arrangeRelations_63 : decode cX0_arrangeRelations 63 = .ok (.iload_n 1, 1) := by decide +kernel
theorem dX0_arrangeRelations_64 : decode cX0_arrangeRelations 64 = .ok (.if_icmp .eq 20, 3) := by decide +kernel
theorem dX0_arrangeRelations_67 : decode cX0_arrangeRelations 67 = .ok (.iload 5, 2) := by decide +kernel
theorem dX0_arrangeRelations_69 : decode cX0_arrangeRelations 69 = .ok (.iload_n 1, 1) := by decide +kernel
theorem dX0_arrangeRelations_70 : decode cX0_arrangeRelations 70 = .ok (.if_icmp .eq 14, 3) := by decide +kernel
theorem dX0_arrangeRelations_73 : decode cX0_arrangeRelations 73 = .ok (.aload_n 0, 1) := by decide +kernel
theorem dX0_arrangeRelations_74 : decode cX0_arrangeRelations 74 = .ok (.iload_n 1, 1) := by decide +kernel
theorem dX0_arrangeRelations_75 : decode cX0_arrangeRelations 75 = .ok (.iload_n 2, 1) := by decide +kernel
theorem dX0_arrangeRelations_76 : decode cX0_arrangeRelations 76 = .ok (.iload_n 3, 1) := by decide +kernel
theorem dX0_arrangeRelations_77 : decode cX0_arrangeRelations 77 = .ok (.iload 4, 2) := by decide +kernel
theorem dX0_arrangeRelations_79 : decode cX0_arrangeRelations 79 = .ok (.iload 5, 2) := by decide +kernel
theorem dX0_arrangeRelations_81 : decode cX0_arrangeRelations 81 = .ok (.invokevirtual 63, 3) := by decide +kernel
theorem dX0_arrangeRelations_84 : decode cX0_arrangeRelations 84 = .ok (.iinc 5 1, 3) := by decide +kernel
theorem dX0_arrangeRelations_87 : decode cX0_arrangeRelations 87 = .ok (.goto (-45), 3) := by decide +kernel
theorem dX0_arrangeRelations_90 : decode cX0_arrangeRelations 90 = .ok (.iinc 4 1, 3) := by decide +kernel
theorem dX0_arrangeRelations_93 : decode cX0_arrangeRelations 93 = .ok (.goto (-66), 3) := by decide +kernel
theorem dX0_arrangeRelations_96 : decode cX0_arrangeRelations 96 = .ok (.iinc 3 1, 3) := by decide +kernel
theorem dX0_arrangeRelations_99 : decode cX0_arrangeRelations 99 = .ok (.goto (-85), 3) := by decide +kernel
theorem dX0_arrangeRelations_102 : decode cX0_arrangeRelations 102 = .ok (.iinc 2 1, 3) := by decide +kernel
theorem dX0_arrangeRelations_105 : decode cX0_arrangeRelations 105 = .ok (.goto (-103), 3) := by decide +kernel
theorem dX0_arrangeRelations_108 : decode cX0_arrangeRelations 108 = .ok (.return_, 1) := by decide +kernel
theorem dX0_addRelation_0 : decode cX0_addRelation 0 = .ok (.aload_n 0, 1) := by decide +kernel
theorem dX0_addRelation_1 : decode cX0_addRelation 1 = .ok (.getfield 18, 3) := by decide +kernel
theorem dX0_addRelation_4 : decode cX0_addRelation 4 = .ok (.iconst 5, 1) := by decide +kernel
theorem dX0_addRelation_5 : decode cX0_addRelation 5 = .ok (.imul, 1) := by decide +kernel
theorem dX0_addRelation_6 : decode cX0_addRelation 6 = .ok (.istore 6, 2) := by decide +kernel
theorem dX0_addRelation_8 : decode cX0_addRelation 8 = .ok (.aload_n 0, 1) := by decide +kernel
theorem dX0_addRelation_9 : decode cX0_addRelation 9 = .ok (.getfield 31, 3) := by decide +kernel
theorem dX0_addRelation_12 : decode cX0_addRelation 12 = .ok (.iload 6, 2) := by decide +kernel
theorem dX0_addRelation_14 : decode cX0_addRelation 14 = .ok (.iload_n 1, 1) := by decide +kernel
theorem dX0_addRelation_15 : decode cX0_addRelation 15 = .ok (.iastore, 1) := by decide +kernel
theorem dX0_addRelation_16 : decode cX0_addRelation 16 = .ok (.aload_n 0, 1) := by decide +kernel
theorem dX0_addRelation_17 : decode cX0_addRelation 17 = .ok (.getfield 31, 3) := by decide +kernel
theorem dX0_addRelation_20 : decode cX0_addRelation 20 = .ok (.iload 6, 2) := by decide +kernel
theorem dX0_addRelation_22 : decode cX0_addRelation 22 = .ok (.iconst 1, 1) := by decide +kernel
theorem dX0_addRelation_23 : decode cX0_addRelation 23 = .ok (.iadd, 1) := by decide +kernel
theorem dX0_addRelation_24 : decode cX0_addRelation 24 = .ok (.iload_n 2, 1) := by decide +kernel
theorem dX0_addRelation_25 : decode cX0_addRelation 25 = .ok (.iastore, 1) := by decide +kernel
theorem dX0_addRelation_26 : decode cX0_addRelation 26 = .ok (.aload_n 0, 1) := by decide +kernel
theorem dX0_addRelation_27 : decode cX0_addRelation 27 = .ok (.getfield 31, 3) := by decide +kernel
theorem dX0_addRelation_30 : decode cX0_addRelation 30 = .ok (.iload 6, 2) := by decide +kernel
theorem dX0_addRelation_32 : decode cX0_addRelation 32 = .ok (.iconst 2, 1) := by decide +kernel
theorem dX0_addRelation_33 : decode cX0_addRelation 33 = .ok (.iadd, 1) := by decide +kernel
theorem dX0_addRelation_34 : decode cX0_addRelation 34 = .ok (.iload_n 3, 1) := by decide +kernel
theorem dX0_addRelation_35 : decode cX0_addRelation 35 = .ok (.iastore, 1) := by decide +kernel
theorem dX0_addRelation_36 : decode cX0_addRelation 36 = .ok (.aload_n 0, 1) := by decide +kernel
theorem dX0_addRelation_37 : decode cX0_addRelation 37 = .ok (.getfield 31, 3) := by decide +kernel
theorem dX0_addRelation_40 : decode cX0_addRelation 40 = .ok (.iload 6, 2) := by decide +kernel
theorem dX0_addRelation_42 : decode cX0_addRelation 42 = .ok (.iconst 3, 1) := by decide +kernel
theorem dX0_addRelation_43 : decode cX0_addRelation 43 = .ok (.iadd, 1) := by decide +kernel
theorem dX0_addRelation_44 : decode cX0_addRelation 44 = .ok (.iload 4, 2) := by decide +kernel
theorem dX0_addRelation_46 : decode cX0_addRelation 46 = .ok (.iastore, 1) := by decide +kernel
theorem dX0_addRelation_47 : decode cX0_addRelation 47 = .ok (.aload_n 0, 1) := by decide +kernel
theorem dX0_addRelation_48 : decode cX0_addRelation 48 = .ok (.getfield 31, 3) := by decide +kernel
theorem dX0_addRelation_51 : decode cX0_addRelation 51 = .ok (.iload 6, 2) := by decide +kernel
theorem dX0_addRelation_53 : decode cX0_addRelation 53 = .ok (.iconst 4, 1) := by decide +kernel
theorem dX0_addRelation_54 : decode cX0_addRelation 54 = .ok (.iadd, 1) := by decide +kernel
theorem dX0_addRelation_55 : decode cX0_addRelation 55 = .ok (.iload 5, 2) := by decide +kernel
theorem dX0_addRelation_57 : decode cX0_addRelation 57 = .ok (.iastore, 1) := by decide +kernel
theorem dX0_addRelation_58 : decode cX0_addRelation 58 = .ok (.aload_n 0, 1) := by decide +kernel
theorem dX0_addRelation_59 : decode cX0_addRelation 59 = .ok (.getfield 40, 3) := by decide +kernel
theorem dX0_addRelation_62 : decode cX0_addRelation 62 = .ok (.aload_n 0, 1) := by decide +kernel
theorem dX0_addRelation_63 : decode cX0_addRelation 63 = .ok (.getfield 18, 3) := by decide +kernel
theorem dX0_addRelation_66 : decode cX0_addRelation 66 = .ok (.lconst 0, 1) := by decide +kernel
theorem dX0_addRelation_67 : decode cX0_addRelation 67 = .ok (.lastore, 1) := by decide +kernel
theorem dX0_addRelation_68 : decode cX0_addRelation 68 = .ok (.aload_n 0, 1) := by decide +kernel
theorem dX0_addRelation_69 : decode cX0_addRelation 69 = .ok (.iconst 0, 1) := by decide +kernel
theorem dX0_addRelation_70 : decode cX0_addRelation 70 = .ok (.iload_n 1, 1) := by decide +kernel
theorem dX0_addRelation_71 : decode cX0_addRelation 71 = .ok (.iload_n 2, 1) := by decide +kernel
theorem dX0_addRelation_72 : decode cX0_addRelation 72 = .ok (.iload_n 3, 1) := by decide +kernel
theorem dX0_addRelation_73 : decode cX0_addRelation 73 = .ok (.invokestatic 59, 3) := by decide +kernel
theorem dX0_addRelation_76 : decode cX0_addRelation 76 = .ok (.iload_n 1, 1) := by decide +kernel
theorem dX0_addRelation_77 : decode cX0_addRelation 77 = .ok (.iload 4, 2) := by decide +kernel
theorem dX0_addRelation_79 : decode cX0_addRelation 79 = .ok (.iload 5, 2) := by decide +kernel
theorem dX0_addRelation_81 : decode cX0_addRelation 81 = .ok (.invokestatic 59, 3) := by decide +kernel
theorem dX0_addRelation_84 : decode cX0_addRelation 84 = .ok (.iconst 1, 1) := by decide +kernel
theorem dX0_addRelation_85 : decode cX0_addRelation 85 = .ok (.invokevirtual 67, 3) := by decide +kernel
theorem dX0_addRelation_88 : decode cX0_addRelation 88 = .ok (.aload_n 0, 1) := by decide +kernel
theorem dX0_addRelation_89 : decode cX0_addRelation 89 = .ok (.iconst 1, 1) := by decide +kernel
theorem dX0_addRelation_90 : decode cX0_addRelation 90 = .ok (.iload_n 1, 1) := by decide +kernel
theorem dX0_addRelation_91 : decode cX0_addRelation 91 = .ok (.iload_n 2, 1) := by decide +kernel
theorem dX0_addRelation_92 : decode cX0_addRelation 92 = .ok (.iload 4, 2) := by decide +kernel
theorem dX0_addRelation_94 : decode cX0_addRelation 94 = .ok (.invokestatic 59, 3) := by decide +kernel
theorem dX0_addRelation_97 : decode cX0_addRelation 97 = .ok (.iload_n 1, 1) := by decide +kernel
theorem dX0_addRelation_98 : decode cX0_addRelation 98 = .ok (.iload_n 3, 1) := by decide +kernel
theorem dX0_addRelation_99 : decode cX0_addRelation 99 = .ok (.iload 5, 2) := by decide +kernel
theorem dX0_addRelation_101 : decode cX0_addRelation 101 = .ok (.invokestatic 59, 3) := by decide +kernel
theorem dX0_addRelation_104 : decode cX0_addRelation 104 = .ok (.iconst (-1), 1) := by decide +kernel
theorem dX0_addRelation_105 : decode cX0_addRelation 105 = .ok (.invokevirtual 67, 3) := by decide +kernel
theorem dX0_addRelation_108 : decode cX0_addRelation 108 = .ok (.aload_n 0, 1) := by decide +kernel
theorem dX0_addRelation_109 : decode cX0_addRelation 109 = .ok (.iconst 2, 1) := by decide +kernel
theorem dX0_addRelation_110 : decode cX0_addRelation 110 = .ok (.iload_n 1, 1) := by decide +kernel
theorem dX0_addRelation_111 : decode cX0_addRelation 111 = .ok (.iload_n 2, 1) := by decide +kernel
theorem dX0_addRelation_112 : decode cX0_addRelation 112 = .ok (.iload 5, 2) := by decide +kernel
theorem dX0_addRelation_114 : decode cX0_addRelation 114 = .ok (.invokestatic 59, 3) := by decide +kernel
theorem dX0_addRelation_117 : decode cX0_addRelation 117 = .ok (.iload_n 1, 1) := by decide +kernel
theorem dX0_addRelation_118 : decode cX0_addRelation 118 = .ok (.iload_n 3, 1) := by decide +kernel
theorem dX0_addRelation_119 : decode cX0_addRelation 119 = .ok (.iload 4, 2) := by decide +kernel
theorem dX0_addRelation_121 : decode cX0_addRelation 121 = .ok (.invokestatic 59, 3) := by decide +kernel
theorem dX0_addRelation_124 : decode cX0_addRelation 124 = .ok (.iconst 1, 1) := by decide +kernel
theorem dX0_addRelation_125 : decode cX0_addRelation 125 = .ok (.invokevirtual 67, 3) := by decide +kernel
theorem dX0_addRelation_128 : decode cX0_addRelation 128 = .ok (.aload_n 0, 1) := by decide +kernel
theorem dX0_addRelation_129 : decode cX0_addRelation 129 = .ok (.dup, 1) := by decide +kernel
theorem dX0_addRelation_130 : decode cX0_addRelation 130 = .ok (.getfield 18, 3) := by decide +kernel
theorem dX0_addRelation_133 : decode cX0_addRelation 133 = .ok (.iconst 1, 1) := by decide +kernel
theorem dX0_addRelation_134 : decode cX0_addRelation 134 = .ok (.iadd, 1) := by decide +kernel
theorem dX0_addRelation_135 : decode cX0_addRelation 135 = .ok (.putfield 18, 3) := by decide +kernel
theorem dX0_addRelation_138 : decode cX0_addRelation 138 = .ok (.return_, 1) := by decide +kernel
theorem dX0_setProduct_0 : decode cX0_setProduct 0 = .ok (.aload_n 0, 1) := by decide +kernel
theorem dX0_setProduct_1 : decode cX0_setProduct 1 = .ok (.getfield 18, 3) := by decide +kernel
theorem dX0_setProduct_4 : decode cX0_setProduct 4 = .ok (.bipush 6, 2) := by decide +kernel
theorem dX0_setProduct_6 : decode cX0_setProduct 6 = .ok (.imul, 1) := by decide +kernel
theorem dX0_setProduct_7 : decode cX0_setProduct 7 = .ok (.iconst 2, 1) := by decide +kernel
theorem dX0_setProduct_8 : decode cX0_setProduct 8 = .ok (.iload_n 1, 1) := by decide +kernel
theorem dX0_setProduct_9 : decode cX0_setProduct 9 = .ok (.imul, 1) := by decide +kernel
theorem dX0_setProduct_10 : decode cX0_setProduct 10 = .ok (.iadd, 1) := by decide +kernel
theorem dX0_setProduct_11 : decode cX0_setProduct 11 = .ok (.istore 5, 2) := by decide +kernel
theorem dX0_setProduct_13 : decode cX0_setProduct 13 = .ok (.aload_n 0, 1) := by decide +kernel
theorem dX0_setProduct_14 : decode cX0_setProduct 14 = .ok (.getfield 34, 3) := by decide +kernel
theorem dX0_setProduct_17 : decode cX0_setProduct 17 = .ok (.iload 5, 2) := by decide +kernel
theorem dX0_setProduct_19 : decode cX0_setProduct 19 = .ok (.aload_n 0, 1) := by decide +kernel
theorem dX0_setProduct_20 : decode cX0_setProduct 20 = .ok (.getfield 25, 3) := by decide +kernel
theorem dX0_setProduct_23 : decode cX0_setProduct 23 = .ok (.iload_n 2, 1) := by decide +kernel
theorem dX0_setProduct_24 : decode cX0_setProduct 24 = .ok (.iaload, 1) := by decide +kernel
theorem dX0_setProduct_25 : decode cX0_setProduct 25 = .ok (.iastore, 1) := by decide +kernel
theorem dX0_setProduct_26 : decode cX0_setProduct 26 = .ok (.aload_n 0, 1) := by decide +kernel
theorem dX0_setProduct_27 : decode cX0_setProduct 27 = .ok (.getfield 34, 3) := by decide +kernel
theorem dX0_setProduct_30 : decode cX0_setProduct 30 = .ok (.iload 5, 2) := by decide +kernel
theorem dX0_setProduct_32 : decode cX0_setProduct 32 = .ok (.iconst 1, 1) := by decide +kernel
theorem dX0_setProduct_33 : decode cX0_setProduct 33 = .ok (.iadd, 1) := by decide +kernel
theorem dX0_setProduct_34 : decode cX0_setProduct 34 = .ok (.aload_n 0, 1) := by decide +kernel
theorem dX0_setProduct_35 : decode cX0_setProduct 35 = .ok (.getfield 25, 3) := by decide +kernel
theorem dX0_setProduct_38 : decode cX0_setProduct 38 = .ok (.iload_n 3, 1) := by decide +kernel
theorem dX0_setProduct_39 : decode cX0_setProduct 39 = .ok (.iaload, 1) := by decide +kernel
theorem dX0_setProduct_40 : decode cX0_setProduct 40 = .ok (.iastore, 1) := by decide +kernel
theorem dX0_setProduct_41 : decode cX0_setProduct 41 = .ok (.aload_n 0, 1) := by decide +kernel
theorem dX0_setProduct_42 : decode cX0_setProduct 42 = .ok (.getfield 37, 3) := by decide +kernel
theorem dX0_setProduct_45 : decode cX0_setProduct 45 = .ok (.aload_n 0, 1) := by decide +kernel
theorem dX0_setProduct_46 : decode cX0_setProduct 46 = .ok (.getfield 18, 3) := by decide +kernel
theorem dX0_setProduct_49 : decode cX0_setProduct 49 = .ok (.iconst 3, 1) := by decide +kernel
theorem dX0_setProduct_50 : decode cX0_setProduct 50 = .ok (.imul, 1) := by decide +kernel
theorem dX0_setProduct_51 : decode cX0_setProduct 51 = .ok (.iload_n 1, 1) := by decide +kernel
theorem dX0_setProduct_52 : decode cX0_setProduct 52 = .ok (.iadd, 1) := by decide +kernel
theorem dX0_setProduct_53 : decode cX0_setProduct 53 = .ok (.iload 4, 2) := by decide +kernel
theorem dX0_setProduct_55 : decode cX0_setProduct 55 = .ok (.aload_n 0, 1) := by decide +kernel
theorem dX0_setProduct_56 : decode cX0_setProduct 56 = .ok (.getfield 28, 3) := by decide +kernel
theorem dX0_setProduct_59 : decode cX0_setProduct 59 = .ok (.iload_n 2, 1) := by decide +kernel
theorem dX0_setProduct_60 : decode cX0_setProduct 60 = .ok (.iaload, 1) := by decide +kernel
theorem dX0_setProduct_61 : decode cX0_setProduct 61 = .ok (.imul, 1) := by decide +kernel
theorem dX0_setProduct_62 : decode cX0_setProduct 62 = .ok (.aload_n 0, 1) := by decide +kernel
theorem dX0_setProduct_63 : decode cX0_setProduct 63 = .ok (.getfield 28, 3) := by decide +kernel
theorem dX0_setProduct_66 : decode cX0_setProduct 66 = .ok (.iload_n 3, 1) := by decide +kernel
theorem dX0_setProduct_67 : decode cX0_setProduct 67 = .ok (.iaload, 1) := by decide +kernel
theorem dX0_setProduct_68 : decode cX0_setProduct 68 = .ok (.imul, 1) := by decide +kernel
theorem dX0_setProduct_69 : decode cX0_setProduct 69 = .ok (.iastore, 1) := by decide +kernel
theorem dX0_setProduct_70 : decode cX0_setProduct 70 = .ok (.aload_n 0, 1) := by decide +kernel
theorem dX0_setProduct_71 : decode cX0_setProduct 71 = .ok (.getfield 40, 3) := by decide +kernel
theorem dX0_setProduct_74 : decode cX0_setProduct 74 = .ok (.aload_n 0, 1) := by decide +kernel
theorem dX0_setProduct_75 : decode cX0_setProduct 75 = .ok (.getfield 18, 3) := by decide +kernel
theorem dX0_setProduct_78 : decode cX0_setProduct 78 = .ok (.dup2, 1) := by decide +kernel
theorem dX0_setProduct_79 : decode cX0_setProduct 79 = .ok (.laload, 1) := by decide +kernel
theorem dX0_setProduct_80 : decode cX0_setProduct 80 = .ok (.lconst 1, 1) := by decide +kernel
theorem dX0_setProduct_81 : decode cX0_setProduct 81 = .ok (.aload_n 0, 1) := by decide +kernel
theorem dX0_setProduct_82 : decode cX0_setProduct 82 = .ok (.getfield 25, 3) := by decide +kernel
theorem dX0_setProduct_85 : decode cX0_setProduct 85 = .ok (.iload_n 2, 1) := by decide +kernel
theorem dX0_setProduct_86 : decode cX0_setProduct 86 = .ok (.iaload, 1) := by decide +kernel
theorem dX0_setProduct_87 : decode cX0_setProduct 87 = .ok (.lshl, 1) := by decide +kernel
theorem dX0_setProduct_88 : decode cX0_setProduct 88 = .ok (.lconst 1, 1) := by decide +kernel
theorem dX0_setProduct_89 : decode cX0_setProduct 89 = .ok (.aload_n 0, 1) := by decide +kernel
theorem dX0_setProduct_90 : decode cX0_setProduct 90 = .ok (.getfield 25, 3) := by decide +kernel
theorem dX0_setProduct_93 : decode cX0_setProduct 93 = .ok (.iload_n 3, 1) := by decide +kernel
theorem dX0_setProduct_94 : decode cX0_setProduct 94 = .ok (.iaload, 1) := by decide +kernel
theorem dX0_setProduct_95 : decode cX0_setProduct 95 = .ok (.lshl, 1) := by decide +kernel
theorem dX0_setProduct_96 : decode cX0_setProduct 96 = .ok (.lor, 1) := by decide +kernel
theorem dX0_setProduct_97 : decode cX0_setProduct 97 = .ok (.lor, 1) := by decide +kernel
theorem dX0_setProduct_98 : decode cX0_setProduct 98 = .ok (.lastore, 1) := by decide +kernel
theorem dX0_setProduct_99 : decode cX0_setProduct 99 = .ok (.return_, 1) := by decide +kernel
theorem dX0_spot_0 : decode cX0_spot 0 = .ok (.iload_n 0, 1) := by decide +kernel
theorem dX0_spot_1 : decode cX0_spot 1 = .ok (.bipush 8, 2) := by decide +kernel
theorem dX0_spot_3 : decode cX0_spot 3 = .ok (.imul, 1) := by decide +kernel
theorem dX0_spot_4 : decode cX0_spot 4 = .ok (.iload_n 1, 1) := by decide +kernel
theorem dX0_spot_5 : decode cX0_spot 5 = .ok (.iadd, 1) := by decide +kernel
theorem dX0_spot_6 : decode cX0_spot 6 = .ok (.bipush 8, 2) := by decide +kernel
theorem dX0_spot_8 : decode cX0_spot 8 = .ok (.imul, 1) := by decide +kernel
theorem dX0_spot_9 : decode cX0_spot 9 = .ok (.iload_n 2, 1) := by decide +kernel
theorem dX0_spot_10 : decode cX0_spot 10 = .ok (.iadd, 1) := by decide +kernel
theorem dX0_spot_11 : decode cX0_spot 11 = .ok (.ireturn, 1) := by decide +kernel
theorem dX0_numberOf_0 : decode cX0_numberOf 0 = .ok (.aload_n 0, 1) := by decide +kernel
theorem dX0_numberOf_1 : decode cX0_numberOf 1 = .ok (.getfield 25, 3) := by decide +kernel
theorem dX0_numberOf_4 : decode cX0_numberOf 4 = .ok (.iload_n 1, 1) := by decide +kernel
theorem dX0_numberOf_5 : decode cX0_numberOf 5 = .ok (.iload_n 2, 1) := by decide +kernel
theorem dX0_numberOf_6 : decode cX0_numberOf 6 = .ok (.iload_n 3, 1) := by decide +kernel
theorem dX0_numberOf_7 : decode cX0_numberOf 7 = .ok (.invokestatic 59, 3) := by decide +kernel
theorem dX0_numberOf_10 : decode cX0_numberOf 10 = .ok (.iaload, 1) := by decide +kernel
theorem dX0_numberOf_11 : decode cX0_numberOf 11 = .ok (.ireturn, 1) := by decide +kernel
theorem dX0_parity_0 : decode cX0_parity 0 = .ok (.aload_n 0, 1) := by decide +kernel
theorem dX0_parity_1 : decode cX0_parity 1 = .ok (.getfield 28, 3) := by decide +kernel
theorem dX0_parity_4 : decode cX0_parity 4 = .ok (.iload_n 1, 1) := by decide +kernel
theorem dX0_parity_5 : decode cX0_parity 5 = .ok (.iload_n 2, 1) := by decide +kernel
theorem dX0_parity_6 : decode cX0_parity 6 = .ok (.iload_n 3, 1) := by decide +kernel
theorem dX0_parity_7 : decode cX0_parity 7 = .ok (.invokestatic 59, 3) := by decide +kernel
theorem dX0_parity_10 : decode cX0_parity 10 = .ok (.iaload, 1) := by decide +kernel
theorem dX0_parity_11 : decode cX0_parity 11 = .ok (.ireturn, 1) := by decide +kernel
theorem dX0_corner_0 : decode cX0_corner 0 = .ok (.aload_n 0, 1) := by decide +kernel
theorem dX0_corner_1 : decode cX0_corner 1 = .ok (.getfield 21, 3) := by decide +kernel
theorem dX0_corner_4 : decode cX0_corner 4 = .ok (.iload_n 1, 1) := by decide +kernel
theorem dX0_corner_5 : decode cX0_corner 5 = .ok (.iconst 3, 1) := by decide +kernel
theorem dX0_corner_6 : decode cX0_corner 6 = .ok (.imul, 1) := by decide +kernel
theorem dX0_corner_7 : decode cX0_corner 7 = .ok (.iload_n 2, 1) := by decide +kernel
theorem dX0_corner_8 : decode cX0_corner 8 = .ok (.iadd, 1) := by decide +kernel
theorem dX0_corner_9 : decode cX0_corner 9 = .ok (.iaload, 1) := by decide +kernel
theorem dX0_corner_10 : decode cX0_corner 10 = .ok (.ireturn, 1) := by decide +kernel
theorem dX0_hasCorner_0 : decode cX0_hasCorner 0 = .ok (.aload_n 0, 1) := by decide +kernel
theorem dX0_hasCorner_1 : decode cX0_hasCorner 1 = .ok (.iload_n 1, 1) := by decide +kernel
theorem dX0_hasCorner_2 : decode cX0_hasCorner 2 = .ok (.iconst 0, 1) := by decide +kernel
theorem dX0_hasCorner_3 : decode cX0_hasCorner 3 = .ok (.invokevirtual 70, 3) := by decide +kernel
theorem dX0_hasCorner_6 : decode cX0_hasCorner 6 = .ok (.iload_n 2, 1) := by decide +kernel
theorem dX0_hasCorner_7 : decode cX0_hasCorner 7 = .ok (.if_icmp .eq 23, 3) := by decide +kernel
theorem dX0_hasCorner_10 : decode cX0_hasCorner 10 = .ok (.aload_n 0, 1) := by decide +kernel
theorem dX0_hasCorner_11 : decode cX0_hasCorner 11 = .ok (.iload_n 1, 1) := by decide +kernel
theorem dX0_hasCorner_12 : decode cX0_hasCorner 12 = .ok (.iconst 1, 1) := by decide +kernel
theorem dX0_hasCorner_13 : decode cX0_hasCorner 13 = .ok (.invokevirtual 70, 3) := by decide +kernel
theorem dX0_hasCorner_16 : decode cX0_hasCorner 16 = .ok (.iload_n 2, 1) := by decide +kernel
theorem dX0_hasCorner_17 : decode cX0_hasCorner 17 = .ok (.if_icmp .eq 13, 3) := by decide +kernel
theorem dX0_hasCorner_20 : decode cX0_hasCorner 20 = .ok (.aload_n 0, 1) := by decide +kernel
theorem dX0_hasCorner_21 : decode cX0_hasCorner 21 = .ok (.iload_n 1, 1) := by decide +kernel
theorem dX0_hasCorner_22 : decode cX0_hasCorner 22 = .ok (.iconst 2, 1) := by decide +kernel
theorem dX0_hasCorner_23 : decode cX0_hasCorner 23 = .ok (.invokevirtual 70, 3) := by decide +kernel
theorem dX0_hasCorner_26 : decode cX0_hasCorner 26 = .ok (.iload_n 2, 1) := by decide +kernel
theorem dX0_hasCorner_27 : decode cX0_hasCorner 27 = .ok (.if_icmp .ne 7, 3) := by decide +kernel
theorem dX0_hasCorner_30 : decode cX0_hasCorner 30 = .ok (.iconst 1, 1) := by decide +kernel
theorem dX0_hasCorner_31 : decode cX0_hasCorner 31 = .ok (.goto 4, 3) := by decide +kernel
theorem dX0_hasCorner_34 : decode cX0_hasCorner 34 = .ok (.iconst 0, 1) := by decide +kernel
theorem dX0_hasCorner_35 : decode cX0_hasCorner 35 = .ok (.ireturn, 1) := by decide +kernel
theorem dX0_member_0 : decode cX0_member 0 = .ok (.aload_n 0, 1) := by decide +kernel
theorem dX0_member_1 : decode cX0_member 1 = .ok (.getfield 31, 3) := by decide +kernel
theorem dX0_member_4 : decode cX0_member 4 = .ok (.iload_n 1, 1) := by decide +kernel
theorem dX0_member_5 : decode cX0_member 5 = .ok (.iconst 5, 1) := by decide +kernel
theorem dX0_member_6 : decode cX0_member 6 = .ok (.imul, 1) := by decide +kernel
theorem dX0_member_7 : decode cX0_member 7 = .ok (.iload_n 2, 1) := by decide +kernel
theorem dX0_member_8 : decode cX0_member 8 = .ok (.iadd, 1) := by decide +kernel
theorem dX0_member_9 : decode cX0_member 9 = .ok (.iaload, 1) := by decide +kernel
theorem dX0_member_10 : decode cX0_member 10 = .ok (.ireturn, 1) := by decide +kernel
theorem dX0_factor_0 : decode cX0_factor 0 = .ok (.aload_n 0, 1) := by decide +kernel
theorem dX0_factor_1 : decode cX0_factor 1 = .ok (.getfield 34, 3) := by decide +kernel
theorem dX0_factor_4 : decode cX0_factor 4 = .ok (.iload_n 1, 1) := by decide +kernel
theorem dX0_factor_5 : decode cX0_factor 5 = .ok (.bipush 6, 2) := by decide +kernel
theorem dX0_factor_7 : decode cX0_factor 7 = .ok (.imul, 1) := by decide +kernel
theorem dX0_factor_8 : decode cX0_factor 8 = .ok (.iload_n 2, 1) := by decide +kernel
theorem dX0_factor_9 : decode cX0_factor 9 = .ok (.iadd, 1) := by decide +kernel
theorem dX0_factor_10 : decode cX0_factor 10 = .ok (.iaload, 1) := by decide +kernel
theorem dX0_factor_11 : decode cX0_factor 11 = .ok (.ireturn, 1) := by decide +kernel
theorem dX0_unknownIn_0 : decode cX0_unknownIn 0 = .ok (.iconst 0, 1) := by decide +kernel
theorem dX0_unknownIn_1 : decode cX0_unknownIn 1 = .ok (.istore_n 3, 1) := by decide +kernel
theorem dX0_unknownIn_2 : decode cX0_unknownIn 2 = .ok (.iload_n 1, 1) := by decide +kernel
theorem dX0_unknownIn_3 : decode cX0_unknownIn 3 = .ok (.bipush 6, 2) := by decide +kernel
theorem dX0_unknownIn_5 : decode cX0_unknownIn 5 = .ok (.imul, 1) := by decide +kernel
theorem dX0_unknownIn_6 : decode cX0_unknownIn 6 = .ok (.istore 4, 2) := by decide +kernel
theorem dX0_unknownIn_8 : decode cX0_unknownIn 8 = .ok (.iconst 0, 1) := by decide +kernel
theorem dX0_unknownIn_9 : decode cX0_unknownIn 9 = .ok (.istore 5, 2) := by decide +kernel
theorem dX0_unknownIn_11 : decode cX0_unknownIn 11 = .ok (.iload 5, 2) := by decide +kernel
theorem dX0_unknownIn_13 : decode cX0_unknownIn 13 = .ok (.bipush 6, 2) := by decide +kernel
theorem dX0_unknownIn_15 : decode cX0_unknownIn 15 = .ok (.if_icmp .ge 29, 3) := by decide +kernel
theorem dX0_unknownIn_18 : decode cX0_unknownIn 18 = .ok (.aload_n 2, 1) := by decide +kernel
theorem dX0_unknownIn_19 : decode cX0_unknownIn 19 = .ok (.aload_n 0, 1) := by decide +kernel
theorem dX0_unknownIn_20 : decode cX0_unknownIn 20 = .ok (.getfield 34, 3) := by decide +kernel
theorem dX0_unknownIn_23 : decode cX0_unknownIn 23 = .ok (.iload 4, 2) := by decide +kernel
theorem dX0_unknownIn_25 : decode cX0_unknownIn 25 = .ok (.iload 5, 2) := by decide +kernel
theorem dX0_unknownIn_27 : decode cX0_unknownIn 27 = .ok (.iadd, 1) := by decide +kernel
theorem dX0_unknownIn_28 : decode cX0_unknownIn 28 = .ok (.iaload, 1) := by decide +kernel
theorem dX0_unknownIn_29 : decode cX0_unknownIn 29 = .ok (.iaload, 1) := by decide +kernel
theorem dX0_unknownIn_30 : decode cX0_unknownIn 30 = .ok (.bipush (-100), 2) := by decide +kernel
theorem dX0_unknownIn_32 : decode cX0_unknownIn 32 = .ok (.if_icmp .ne 6, 3) := by decide +kernel
theorem dX0_unknownIn_35 : decode cX0_unknownIn 35 = .ok (.iinc 3 1, 3) := by decide +kernel
theorem dX0_unknownIn_38 : decode cX0_unknownIn 38 = .ok (.iinc 5 1, 3) := by decide +kernel
theorem dX0_unknownIn_41 : decode cX0_unknownIn 41 = .ok (.goto (-30), 3) := by decide +kernel
theorem dX0_unknownIn_44 : decode cX0_unknownIn 44 = .ok (.iload_n 3, 1) := by decide +kernel
theorem dX0_unknownIn_45 : decode cX0_unknownIn 45 = .ok (.ireturn, 1) := by decide +kernel
theorem dX0_firstUnknownIn_0 : decode cX0_firstUnknownIn 0 = .ok (.iconst 0, 1) := by decide +kernel
theorem dX0_firstUnknownIn_1 : decode cX0_firstUnknownIn 1 = .ok (.istore_n 3, 1) := by decide +kernel
theorem dX0_firstUnknownIn_2 : decode cX0_firstUnknownIn 2 = .ok (.iload_n 3, 1) := by decide +kernel
theorem dX0_firstUnknownIn_3 : decode cX0_firstUnknownIn 3 = .ok (.iconst 5, 1) := by decide +kernel
theorem dX0_firstUnknownIn_4 : decode cX0_firstUnknownIn 4 = .ok (.if_icmp .ge 22, 3) := by decide +kernel
theorem dX0_firstUnknownIn_7 : decode cX0_firstUnknownIn 7 = .ok (.aload_n 2, 1) := by decide +kernel
theorem dX0_firstUnknownIn_8 : decode cX0_firstUnknownIn 8 = .ok (.aload_n 0, 1) := by decide +kernel
theorem dX0_firstUnknownIn_9 : decode cX0_firstUnknownIn 9 = .ok (.iload_n 1, 1) := by decide +kernel
theorem dX0_firstUnknownIn_10 : decode cX0_firstUnknownIn 10 = .ok (.iload_n 3, 1) := by decide +kernel
theorem dX0_firstUnknownIn_11 : decode cX0_firstUnknownIn 11 = .ok (.invokevirtual 74, 3) := by decide +kernel
theorem dX0_firstUnknownIn_14 : decode cX0_firstUnknownIn 14 = .ok (.iaload, 1) := by decide +kernel
theorem dX0_firstUnknownIn_15 : decode cX0_firstUnknownIn 15 = .ok (.bipush (-100), 2) := by decide +kernel
theorem dX0_firstUnknownIn_17 : decode cX0_firstUnknownIn 17 = .ok (.if_icmp .eq 9, 3) := by decide +kernel
theorem dX0_firstUnknownIn_20 : decode cX0_firstUnknownIn 20 = .ok (.iinc 3 1, 3) := by decide +kernel
theorem dX0_firstUnknownIn_23 : decode cX0_firstUnknownIn 23 = .ok (.goto (-21), 3) := by decide +kernel
theorem dX0_firstUnknownIn_26 : decode cX0_firstUnknownIn 26 = .ok (.aload_n 0, 1) := by decide +kernel
theorem dX0_firstUnknownIn_27 : decode cX0_firstUnknownIn 27 = .ok (.iload_n 1, 1) := by decide +kernel
theorem dX0_firstUnknownIn_28 : decode cX0_firstUnknownIn 28 = .ok (.iload_n 3, 1) := by decide +kernel
theorem dX0_firstUnknownIn_29 : decode cX0_firstUnknownIn 29 = .ok (.invokevirtual 74, 3) := by decide +kernel
theorem dX0_firstUnknownIn_32 : decode cX0_firstUnknownIn 32 = .ok (.ireturn, 1) := by decide +kernel
theorem dX0_verdict_0 : decode cX0_verdict 0 = .ok (.aload_n 0, 1) := by decide +kernel
theorem dX0_verdict_1 : decode cX0_verdict 1 = .ok (.iload_n 1, 1) := by decide +kernel
theorem dX0_verdict_2 : decode cX0_verdict 2 = .ok (.aload_n 2, 1) := by decide +kernel
theorem dX0_verdict_3 : decode cX0_verdict 3 = .ok (.invokevirtual 77, 3) := by decide +kernel
theorem dX0_verdict_6 : decode cX0_verdict 6 = .ok (.ifCond .le 5, 3) := by decide +kernel
theorem dX0_verdict_9 : decode cX0_verdict 9 = .ok (.iconst 0, 1) := by decide +kernel
theorem dX0_verdict_10 : decode cX0_verdict 10 = .ok (.ireturn, 1) := by decide +kernel
theorem dX0_verdict_11 : decode cX0_verdict 11 = .ok (.iconst 0, 1) := by decide +kernel
theorem dX0_verdict_12 : decode cX0_verdict 12 = .ok (.istore_n 3, 1) := by decide +kernel
theorem dX0_verdict_13 : decode cX0_verdict 13 = .ok (.iconst 0, 1) := by decide +kernel
theorem dX0_verdict_14 : decode cX0_verdict 14 = .ok (.istore 4, 2) := by decide +kernel
theorem dX0_verdict_16 : decode cX0_verdict 16 = .ok (.iconst 0, 1) := by decide +kernel
theorem dX0_verdict_17 : decode cX0_verdict 17 = .ok (.istore 5, 2) := by decide +kernel
theorem dX0_verdict_19 : decode cX0_verdict 19 = .ok (.iload 5, 2) := by decide +kernel
theorem dX0_verdict_21 : decode cX0_verdict 21 = .ok (.iconst 3, 1) := by decide +kernel
theorem dX0_verdict_22 : decode cX0_verdict 22 = .ok (.if_icmp .ge 82, 3) := by decide +kernel
theorem dX0_verdict_25 : decode cX0_verdict 25 = .ok (.aload_n 0, 1) := by decide +kernel
theorem dX0_verdict_26 : decode cX0_verdict 26 = .ok (.getfield 37, 3) := by decide +kernel
theorem dX0_verdict_29 : decode cX0_verdict 29 = .ok (.iload_n 1, 1) := by decide +kernel
theorem dX0_verdict_30 : decode cX0_verdict 30 = .ok (.iconst 3, 1) := by decide +kernel
theorem dX0_verdict_31 : decode cX0_verdict 31 = .ok (.imul, 1) := by decide +kernel
theorem dX0_verdict_32 : decode cX0_verdict 32 = .ok (.iload 5, 2) := by decide +kernel
theorem dX0_verdict_34 : decode cX0_verdict 34 = .ok (.iadd, 1) := by decide +kernel
theorem dX0_verdict_35 : decode cX0_verdict 35 = .ok (.iaload, 1) := by decide +kernel
theorem dX0_verdict_36 : decode cX0_verdict 36 = .ok (.aload_n 2, 1) := by decide +kernel
theorem dX0_verdict_37 : decode cX0_verdict 37 = .ok (.aload_n 0, 1) := by decide +kernel
theorem dX0_verdict_38 : decode cX0_verdict 38 = .ok (.iload_n 1, 1) := by decide +kernel
theorem dX0_verdict_39 : decode cX0_verdict 39 = .ok (.iconst 2, 1) := by decide +kernel
theorem dX0_verdict_40 : decode cX0_verdict 40 = .ok (.iload 5, 2) := by decide +kernel
theorem dX0_verdict_42 : decode cX0_verdict 42 = .ok (.imul, 1) := by decide +kernel
theorem dX0_verdict_43 : decode cX0_verdict 43 = .ok (.invokevirtual 74, 3) := by decide +kernel
theorem dX0_verdict_46 : decode cX0_verdict 46 = .ok (.iaload, 1) := by decide +kernel
theorem dX0_verdict_47 : decode cX0_verdict 47 = .ok (.imul, 1) := by decide +kernel
theorem dX0_verdict_48 : decode cX0_verdict 48 = .ok (.aload_n 2, 1) := by decide +kernel
theorem dX0_verdict_49 : decode cX0_verdict 49 = .ok (.aload_n 0, 1) := by decide +kernel
theorem dX0_verdict_50 : decode cX0_verdict 50 = .ok (.iload_n 1, 1) := by decide +kernel
theorem dX0_verdict_51 : decode cX0_verdict 51 = .ok (.iconst 2, 1) := by decide +kernel
theorem dX0_verdict_52 : decode cX0_verdict 52 = .ok (.iload 5, 2) := by decide +kernel
theorem dX0_verdict_54 : decode cX0_verdict 54 = .ok (.imul, 1) := by decide +kernel
theorem dX0_verdict_55 : decode cX0_verdict 55 = .ok (.iconst 1, 1) := by decide +kernel
theorem dX0_verdict_56 : decode cX0_verdict 56 = .ok (.iadd, 1) := by decide +kernel
theorem dX0_verdict_57 : decode cX0_verdict 57 = .ok (.invokevirtual 74, 3) := by decide +kernel
theorem dX0_verdict_60 : decode cX0_verdict 60 = .ok (.iaload, 1) := by decide +kernel
theorem dX0_verdict_61 : decode cX0_verdict 61 = .ok (.imul, 1) := by decide +kernel
theorem dX0_verdict_62 : decode cX0_verdict 62 = .ok (.istore 6, 2) := by decide +kernel
theorem dX0_verdict_64 : decode cX0_verdict 64 = .ok (.iload_n 3, 1) := by decide +kernel
theorem dX0_verdict_65 : decode cX0_verdict 65 = .ok (.ifCond .ne 9, 3) := by decide +kernel
theorem dX0_verdict_68 : decode cX0_verdict 68 = .ok (.iload 6, 2) := by decide +kernel
theorem dX0_verdict_70 : decode cX0_verdict 70 = .ok (.iconst 1, 1) := by decide +kernel
theorem dX0_verdict_71 : decode cX0_verdict 71 = .ok (.if_icmp .ne 7, 3) := by decide +kernel
theorem dX0_verdict_74 : decode cX0_verdict 74 = .ok (.iconst 1, 1) := by decide +kernel
theorem dX0_verdict_75 : decode cX0_verdict 75 = .ok (.goto 4, 3) := by decide +kernel
theorem dX0_verdict_78 : decode cX0_verdict 78 = .ok (.iconst 0, 1) := by decide +kernel
theorem dX0_verdict_79 : decode cX0_verdict 79 = .ok (.istore_n 3, 1) := by decide +kernel
theorem dX0_verdict_80 : decode cX0_verdict 80 = .ok (.iload 4, 2) := by decide +kernel
theorem dX0_verdict_82 : decode cX0_verdict 82 = .ok (.ifCond .ne 9, 3) := by decide +kernel
theorem dX0_verdict_85 : decode cX0_verdict 85 = .ok (.iload 6, 2) := by decide +kernel
theorem dX0_verdict_87 : decode cX0_verdict 87 = .ok (.iconst (-1), 1) := by decide +kernel
theorem dX0_verdict_88 : decode cX0_verdict 88 = .ok (.if_icmp .ne 7, 3) := by decide +kernel
theorem dX0_verdict_91 : decode cX0_verdict 91 = .ok (.iconst 1, 1) := by decide +kernel
theorem dX0_verdict_92 : decode cX0_verdict 92 = .ok (.goto 4, 3) := by decide +kernel
theorem dX0_verdict_95 : decode cX0_verdict 95 = .ok (.iconst 0, 1) := by decide +kernel
theorem dX0_verdict_96 : decode cX0_verdict 96 = .ok (.istore 4, 2) := by decide +kernel
theorem dX0_verdict_98 : decode cX0_verdict 98 = .ok (.iinc 5 1, 3) := by decide +kernel
theorem dX0_verdict_101 : decode cX0_verdict 101 = .ok (.goto (-82), 3) := by decide +kernel
theorem dX0_verdict_104 : decode cX0_verdict 104 = .ok (.iload_n 3, 1) := by decide +kernel
theorem dX0_verdict_105 : decode cX0_verdict 105 = .ok (.iload 4, 2) := by decide +kernel
theorem dX0_verdict_107 : decode cX0_verdict 107 = .ok (.if_icmp .ne 7, 3) := by decide +kernel
theorem dX0_verdict_110 : decode cX0_verdict 110 = .ok (.iconst 1, 1) := by decide +kernel
theorem dX0_verdict_111 : decode cX0_verdict 111 = .ok (.goto 4, 3) := by decide +kernel
theorem dX0_verdict_114 : decode cX0_verdict 114 = .ok (.iconst (-1), 1) := by decide +kernel
theorem dX0_verdict_115 : decode cX0_verdict 115 = .ok (.ireturn, 1) := by decide +kernel
theorem dX0_isViolatedWith_0 : decode cX0_isViolatedWith 0 = .ok (.lconst 1, 1) := by decide +kernel
theorem dX0_isViolatedWith_1 : decode cX0_isViolatedWith 1 = .ok (.iload_n 1, 1) := by decide +kernel
theorem dX0_isViolatedWith_2 : decode cX0_isViolatedWith 2 = .ok (.lshl, 1) := by decide +kernel
theorem dX0_isViolatedWith_3 : decode cX0_isViolatedWith 3 = .ok (.lstore_n 3, 1) := by decide +kernel
theorem dX0_isViolatedWith_4 : decode cX0_isViolatedWith 4 = .ok (.iconst 0, 1) := by decide +kernel
theorem dX0_isViolatedWith_5 : decode cX0_isViolatedWith 5 = .ok (.istore 5, 2) := by decide +kernel
theorem dX0_isViolatedWith_7 : decode cX0_isViolatedWith 7 = .ok (.iload 5, 2) := by decide +kernel
theorem dX0_isViolatedWith_9 : decode cX0_isViolatedWith 9 = .ok (.aload_n 0, 1) := by decide +kernel
theorem dX0_isViolatedWith_10 : decode cX0_isViolatedWith 10 = .ok (.getfield 18, 3) := by decide +kernel
theorem dX0_isViolatedWith_13 : decode cX0_isViolatedWith 13 = .ok (.if_icmp .ge 35, 3) := by decide +kernel
theorem dX0_isViolatedWith_16 : decode cX0_isViolatedWith 16 = .ok (.aload_n 0, 1) := by decide +kernel
theorem dX0_isViolatedWith_17 : decode cX0_isViolatedWith 17 = .ok (.getfield 40, 3) := by decide +kernel
theorem dX0_isViolatedWith_20 : decode cX0_isViolatedWith 20 = .ok (.iload 5, 2) := by decide +kernel
theorem dX0_isViolatedWith_22 : decode cX0_isViolatedWith 22 = .ok (.laload, 1) := by decide +kernel
theorem dX0_isViolatedWith_23 : decode cX0_isViolatedWith 23 = .ok (.lload_n 3, 1) := by decide +kernel
theorem dX0_isViolatedWith_24 : decode cX0_isViolatedWith 24 = .ok (.land, 1) := by decide +kernel
theorem dX0_isViolatedWith_25 : decode cX0_isViolatedWith 25 = .ok (.lconst 0, 1) := by decide +kernel
theorem dX0_isViolatedWith_26 : decode cX0_isViolatedWith 26 = .ok (.lcmp, 1) := by decide +kernel
theorem dX0_isViolatedWith_27 : decode cX0_isViolatedWith 27 = .ok (.ifCond .eq 15, 3) := by decide +kernel
theorem dX0_isViolatedWith_30 : decode cX0_isViolatedWith 30 = .ok (.aload_n 0, 1) := by decide +kernel
theorem dX0_isViolatedWith_31 : decode cX0_isViolatedWith 31 = .ok (.iload 5, 2) := by decide +kernel
theorem dX0_isViolatedWith_33 : decode cX0_isViolatedWith 33 = .ok (.aload_n 2, 1) := by decide +kernel
theorem dX0_isViolatedWith_34 : decode cX0_isViolatedWith 34 = .ok (.invokevirtual 81, 3) := by decide +kernel
theorem dX0_isViolatedWith_37 : decode cX0_isViolatedWith 37 = .ok (.ifCond .ge 5, 3) := by decide +kernel
theorem dX0_isViolatedWith_40 : decode cX0_isViolatedWith 40 = .ok (.iconst 1, 1) := by decide +kernel
theorem dX0_isViolatedWith_41 : decode cX0_isViolatedWith 41 = .ok (.ireturn, 1) := by decide +kernel
theorem dX0_isViolatedWith_42 : decode cX0_isViolatedWith 42 = .ok (.iinc 5 1, 3) := by decide +kernel
theorem dX0_isViolatedWith_45 : decode cX0_isViolatedWith 45 = .ok (.goto (-38), 3) := by decide +kernel
theorem dX0_isViolatedWith_48 : decode cX0_isViolatedWith 48 = .ok (.iconst 0, 1) := by decide +kernel
theorem dX0_isViolatedWith_49 : decode cX0_isViolatedWith 49 = .ok (.ireturn, 1) := by decide +kernel
theorem dX0_signAt_0 : decode cX0_signAt 0 = .ok (.aload_n 0, 1) := by decide +kernel
theorem dX0_signAt_1 : decode cX0_signAt 1 = .ok (.iload_n 1, 1) := by decide +kernel
theorem dX0_signAt_2 : decode cX0_signAt 2 = .ok (.iconst 0, 1) := by decide +kernel
theorem dX0_signAt_3 : decode cX0_signAt 3 = .ok (.invokevirtual 70, 3) := by decide +kernel
theorem dX0_signAt_6 : decode cX0_signAt 6 = .ok (.istore 4, 2) := by decide +kernel
theorem dX0_signAt_8 : decode cX0_signAt 8 = .ok (.aload_n 0, 1) := by decide +kernel
theorem dX0_signAt_9 : decode cX0_signAt 9 = .ok (.iload_n 1, 1) := by decide +kernel
theorem dX0_signAt_10 : decode cX0_signAt 10 = .ok (.iconst 1, 1) := by decide +kernel
theorem dX0_signAt_11 : decode cX0_signAt 11 = .ok (.invokevirtual 70, 3) := by decide +kernel
theorem dX0_signAt_14 : decode cX0_signAt 14 = .ok (.istore 5, 2) := by decide +kernel
theorem dX0_signAt_16 : decode cX0_signAt 16 = .ok (.aload_n 0, 1) := by decide +kernel
theorem dX0_signAt_17 : decode cX0_signAt 17 = .ok (.iload_n 1, 1) := by decide +kernel
theorem dX0_signAt_18 : decode cX0_signAt 18 = .ok (.iconst 2, 1) := by decide +kernel
theorem dX0_signAt_19 : decode cX0_signAt 19 = .ok (.invokevirtual 70, 3) := by decide +kernel
theorem dX0_signAt_22 : decode cX0_signAt 22 = .ok (.istore 6, 2) := by decide +kernel
theorem dX0_signAt_24 : decode cX0_signAt 24 = .ok (.aload_n 2, 1) := by decide +kernel
theorem dX0_signAt_25 : decode cX0_signAt 25 = .ok (.iload 4, 2) := by decide +kernel
theorem dX0_signAt_27 : decode cX0_signAt 27 = .ok (.iaload, 1) := by decide +kernel
theorem dX0_signAt_28 : decode cX0_signAt 28 = .ok (.bipush (-100), 2) := by decide +kernel
theorem dX0_signAt_30 : decode cX0_signAt 30 = .ok (.if_icmp .eq 21, 3) := by decide +kernel
theorem dX0_signAt_33 : decode cX0_signAt 33 = .ok (.aload_n 2, 1) := by decide +kernel
theorem dX0_signAt_34 : decode cX0_signAt 34 = .ok (.iload 5, 2) := by decide +kernel
theorem dX0_signAt_36 : decode cX0_signAt 36 = .ok (.iaload, 1) := by decide +kernel
theorem dX0_signAt_37 : decode cX0_signAt 37 = .ok (.bipush (-100), 2) := by decide +kernel
theorem dX0_signAt_39 : decode cX0_signAt 39 = .ok (.if_icmp .eq 12, 3) := by decide +kernel
theorem dX0_signAt_42 : decode cX0_signAt 42 = .ok (.aload_n 2, 1) := by decide +kernel
theorem dX0_signAt_43 : decode cX0_signAt 43 = .ok (.iload 6, 2) := by decide +kernel
theorem dX0_signAt_45 : decode cX0_signAt 45 = .ok (.iaload, 1) := by decide +kernel
theorem dX0_signAt_46 : decode cX0_signAt 46 = .ok (.bipush (-100), 2) := by decide +kernel
theorem dX0_signAt_48 : decode cX0_signAt 48 = .ok (.if_icmp .ne 6, 3) := by decide +kernel
theorem dX0_signAt_51 : decode cX0_signAt 51 = .ok (.bipush (-100), 2) := by decide +kernel
theorem dX0_signAt_53 : decode cX0_signAt 53 = .ok (.ireturn, 1) := by decide +kernel
theorem dX0_signAt_54 : decode cX0_signAt 54 = .ok (.aload_n 2, 1) := by decide +kernel
theorem dX0_signAt_55 : decode cX0_signAt 55 = .ok (.iload 5, 2) := by decide +kernel
theorem dX0_signAt_57 : decode cX0_signAt 57 = .ok (.iaload, 1) := by decide +kernel
theorem dX0_signAt_58 : decode cX0_signAt 58 = .ok (.aload_n 2, 1) := by decide +kernel
theorem dX0_signAt_59 : decode cX0_signAt 59 = .ok (.iload 4, 2) := by decide +kernel
theorem dX0_signAt_61 : decode cX0_signAt 61 = .ok (.iaload, 1) := by decide +kernel
theorem dX0_signAt_62 : decode cX0_signAt 62 = .ok (.isub, 1) := by decide +kernel
theorem dX0_signAt_63 : decode cX0_signAt 63 = .ok (.aload_n 3, 1) := by decide +kernel
theorem dX0_signAt_64 : decode cX0_signAt 64 = .ok (.iload 6, 2) := by decide +kernel
theorem dX0_signAt_66 : decode cX0_signAt 66 = .ok (.iaload, 1) := by decide +kernel
theorem dX0_signAt_67 : decode cX0_signAt 67 = .ok (.aload_n 3, 1) := by decide +kernel
theorem dX0_signAt_68 : decode cX0_signAt 68 = .ok (.iload 4, 2) := by decide +kernel
theorem dX0_signAt_70 : decode cX0_signAt 70 = .ok (.iaload, 1) := by decide +kernel
theorem dX0_signAt_71 : decode cX0_signAt 71 = .ok (.isub, 1) := by decide +kernel
theorem dX0_signAt_72 : decode cX0_signAt 72 = .ok (.imul, 1) := by decide +kernel
theorem dX0_signAt_73 : decode cX0_signAt 73 = .ok (.aload_n 3, 1) := by decide +kernel
theorem dX0_signAt_74 : decode cX0_signAt 74 = .ok (.iload 5, 2) := by decide +kernel
theorem dX0_signAt_76 : decode cX0_signAt 76 = .ok (.iaload, 1) := by decide +kernel
theorem dX0_signAt_77 : decode cX0_signAt 77 = .ok (.aload_n 3, 1) := by decide +kernel
theorem dX0_signAt_78 : decode cX0_signAt 78 = .ok (.iload 4, 2) := by decide +kernel
theorem dX0_signAt_80 : decode cX0_signAt 80 = .ok (.iaload, 1) := by decide +kernel
theorem dX0_signAt_81 : decode cX0_signAt 81 = .ok (.isub, 1) := by decide +kernel
theorem dX0_signAt_82 : decode cX0_signAt 82 = .ok (.aload_n 2, 1) := by decide +kernel
theorem dX0_signAt_83 : decode cX0_signAt 83 = .ok (.iload 6, 2) := by decide +kernel
theorem dX0_signAt_85 : decode cX0_signAt 85 = .ok (.iaload, 1) := by decide +kernel
theorem dX0_signAt_86 : decode cX0_signAt 86 = .ok (.aload_n 2, 1) := by decide +kernel
theorem dX0_signAt_87 : decode cX0_signAt 87 = .ok (.iload 4, 2) := by decide +kernel
theorem dX0_signAt_89 : decode cX0_signAt 89 = .ok (.iaload, 1) := by decide +kernel
theorem dX0_signAt_90 : decode cX0_signAt 90 = .ok (.isub, 1) := by decide +kernel
theorem dX0_signAt_91 : decode cX0_signAt 91 = .ok (.imul, 1) := by decide +kernel
theorem dX0_signAt_92 : decode cX0_signAt 92 = .ok (.isub, 1) := by decide +kernel
theorem dX0_signAt_93 : decode cX0_signAt 93 = .ok (.istore 7, 2) := by decide +kernel
theorem dX0_signAt_95 : decode cX0_signAt 95 = .ok (.iload 7, 2) := by decide +kernel
theorem dX0_signAt_97 : decode cX0_signAt 97 = .ok (.iconst 0, 1) := by decide +kernel
theorem dX0_signAt_98 : decode cX0_signAt 98 = .ok (.invokestatic 84, 3) := by decide +kernel
theorem dX0_signAt_101 : decode cX0_signAt 101 = .ok (.ireturn, 1) := by decide +kernel
theorem dX1_init_0 : decode cX1_init 0 = .ok (.aload_n 0, 1) := by decide +kernel
theorem dX1_init_1 : decode cX1_init 1 = .ok (.invokespecial 3, 3) := by decide +kernel
theorem dX1_init_4 : decode cX1_init 4 = .ok (.aload_n 0, 1) := by decide +kernel
theorem dX1_init_5 : decode cX1_init 5 = .ok (.bipush 120, 2) := by decide +kernel
theorem dX1_init_7 : decode cX1_init 7 = .ok (.newarray .int, 2) := by decide +kernel
theorem dX1_init_9 : decode cX1_init 9 = .ok (.putfield 9, 3) := by decide +kernel
theorem dX1_init_12 : decode cX1_init 12 = .ok (.aload_n 0, 1) := by decide +kernel
theorem dX1_init_13 : decode cX1_init 13 = .ok (.iconst 0, 1) := by decide +kernel
theorem dX1_init_14 : decode cX1_init 14 = .ok (.putfield 15, 3) := by decide +kernel
theorem dX1_init_17 : decode cX1_init 17 = .ok (.aload_n 0, 1) := by decide +kernel
theorem dX1_init_18 : decode cX1_init 18 = .ok (.bipush 120, 2) := by decide +kernel
theorem dX1_init_20 : decode cX1_init 20 = .ok (.newarray .int, 2) := by decide +kernel
theorem dX1_init_22 : decode cX1_init 22 = .ok (.putfield 19, 3) := by decide +kernel
theorem dX1_init_25 : decode cX1_init 25 = .ok (.aload_n 0, 1) := by decide +kernel
theorem dX1_init_26 : decode cX1_init 26 = .ok (.sipush 360, 3) := by decide +kernel
theorem dX1_init_29 : decode cX1_init 29 = .ok (.newarray .int, 2) := by decide +kernel
theorem dX1_init_31 : decode cX1_init 31 = .ok (.putfield 22, 3) := by decide +kernel
theorem dX1_init_34 : decode cX1_init 34 = .ok (.aload_n 0, 1) := by decide +kernel
theorem dX1_init_35 : decode cX1_init 35 = .ok (.iconst 0, 1) := by decide +kernel
theorem dX1_init_36 : decode cX1_init 36 = .ok (.putfield 25, 3) := by decide +kernel
theorem dX1_init_39 : decode cX1_init 39 = .ok (.return_, 1) := by decide +kernel
theorem dX1_parse_0 : decode cX1_parse 0 = .ok (.aload_n 0, 1) := by decide +kernel
theorem dX1_parse_1 : decode cX1_parse 1 = .ok (.iconst 0, 1) := by decide +kernel
theorem dX1_parse_2 : decode cX1_parse 2 = .ok (.putfield 25, 3) := by decide +kernel
theorem dX1_parse_5 : decode cX1_parse 5 = .ok (.aload_n 0, 1) := by decide +kernel
theorem dX1_parse_6 : decode cX1_parse 6 = .ok (.iconst 0, 1) := by decide +kernel
theorem dX1_parse_7 : decode cX1_parse 7 = .ok (.invokevirtual 28, 3) := by decide +kernel
theorem dX1_parse_10 : decode cX1_parse 10 = .ok (.istore_n 1, 1) := by decide +kernel
theorem dX1_parse_11 : decode cX1_parse 11 = .ok (.iload_n 1, 1) := by decide +kernel
theorem dX1_parse_12 : decode cX1_parse 12 = .ok (.aload_n 0, 1) := by decide +kernel
theorem dX1_parse_13 : decode cX1_parse 13 = .ok (.getfield 15, 3) := by decide +kernel
theorem dX1_parse_16 : decode cX1_parse 16 = .ok (.if_icmp .ge 46, 3) := by decide +kernel
theorem dX1_parse_19 : decode cX1_parse 19 = .ok (.aload_n 0, 1) := by decide +kernel
theorem dX1_parse_20 : decode cX1_parse 20 = .ok (.getfield 25, 3) := by decide +kernel
theorem dX1_parse_23 : decode cX1_parse 23 = .ok (.bipush 120, 2) := by decide +kernel
theorem dX1_parse_25 : decode cX1_parse 25 = .ok (.if_icmp .ge 37, 3) := by decide +kernel
theorem dX1_parse_28 : decode cX1_parse 28 = .ok (.aload_n 0, 1) := by decide +kernel
theorem dX1_parse_29 : decode cX1_parse 29 = .ok (.iload_n 1, 1) := by decide +kernel
theorem dX1_parse_30 : decode cX1_parse 30 = .ok (.invokevirtual 32, 3) := by decide +kernel
theorem dX1_parse_33 : decode cX1_parse 33 = .ok (.istore_n 2, 1) := by decide +kernel
theorem dX1_parse_34 : decode cX1_parse 34 = .ok (.iload_n 2, 1) := by decide +kernel
theorem dX1_parse_35 : decode cX1_parse 35 = .ok (.ifCond .ge 8, 3) := by decide +kernel
theorem dX1_parse_38 : decode cX1_parse 38 = .ok (.iload_n 2, 1) := by decide +kernel
theorem dX1_parse_39 : decode cX1_parse 39 = .ok (.invokestatic 35, 3) := by decide +kernel
theorem dX1_parse_42 : decode cX1_parse 42 = .ok (.ireturn, 1) := by decide +kernel
theorem dX1_parse_43 : decode cX1_parse 43 = .ok (.aload_n 0, 1) := by decide +kernel
theorem dX1_parse_44 : decode cX1_parse 44 = .ok (.dup, 1) := by decide +kernel
theorem dX1_parse_45 : decode cX1_parse 45 = .ok (.getfield 25, 3) := by decide +kernel
theorem dX1_parse_48 : decode cX1_parse 48 = .ok (.iconst 1, 1) := by decide +kernel
theorem dX1_parse_49 : decode cX1_parse 49 = .ok (.iadd, 1) := by decide +kernel
theorem dX1_parse_50 : decode cX1_parse 50 = .ok (.putfield 25, 3) := by decide +kernel
theorem dX1_parse_53 : decode cX1_parse 53 = .ok (.aload_n 0, 1) := by decide +kernel
theorem dX1_parse_54 : decode cX1_parse 54 = .ok (.iload_n 2, 1) := by decide +kernel
theorem dX1_parse_55 : decode cX1_parse 55 = .ok (.invokevirtual 28, 3) := by decide +kernel
theorem dX1_parse_58 : decode cX1_parse 58 = .ok (.istore_n 1, 1) := by decide +kernel
theorem dX1_parse_59 : decode cX1_parse 59 = .ok (.goto (-48), 3) := by decide +kernel
theorem dX1_parse_62 : decode cX1_parse 62 = .ok (.bipush (-100), 2) := by decide +kernel
theorem dX1_parse_64 : decode cX1_parse 64 = .ok (.ireturn, 1) := by decide +kernel
theorem dX1_tellFault_0 : decode cX1_tellFault 0 = .ok (.iconst (-1), 1) := by decide +kernel
theorem dX1_tellFault_1 : decode cX1_tellFault 1 = .ok (.iload_n 0, 1) := by decide +kernel
theorem dX1_tellFault_2 : decode cX1_tellFault 2 = .ok (.isub, 1) := by decide +kernel
theorem dX1_tellFault_3 : decode cX1_tellFault 3 = .ok (.ireturn, 1) := by decide +kernel
theorem dX1_faultIn_0 : decode cX1_faultIn 0 = .ok (.iconst (-1), 1) := by decide +kernel
theorem dX1_faultIn_1 : decode cX1_faultIn 1 = .ok (.iload_n 0, 1) := by decide +kernel
theorem dX1_faultIn_2 : decode cX1_faultIn 2 = .ok (.isub, 1) := by decide +kernel
theorem dX1_faultIn_3 : decode cX1_faultIn 3 = .ok (.ireturn, 1) := by decide +kernel
theorem dX1_behindSpaces_0 : decode cX1_behindSpaces 0 = .ok (.iload_n 1, 1) := by decide +kernel
theorem dX1_behindSpaces_1 : decode cX1_behindSpaces 1 = .ok (.istore_n 2, 1) := by decide +kernel
theorem dX1_behindSpaces_2 : decode cX1_behindSpaces 2 = .ok (.iload_n 2, 1) := by decide +kernel
theorem dX1_behindSpaces_3 : decode cX1_behindSpaces 3 = .ok (.aload_n 0, 1) := by decide +kernel
theorem dX1_behindSpaces_4 : decode cX1_behindSpaces 4 = .ok (.getfield 15, 3) := by decide +kernel
theorem dX1_behindSpaces_7 : decode cX1_behindSpaces 7 = .ok (.if_icmp .ge 20, 3) := by decide +kernel
theorem dX1_behindSpaces_10 : decode cX1_behindSpaces 10 = .ok (.aload_n 0, 1) := by decide +kernel
theorem dX1_behindSpaces_11 : decode cX1_behindSpaces 11 = .ok (.getfield 9, 3) := by decide +kernel
theorem dX1_behindSpaces_14 : decode cX1_behindSpaces 14 = .ok (.iload_n 2, 1) := by decide +kernel
theorem dX1_behindSpaces_15 : decode cX1_behindSpaces 15 = .ok (.iaload, 1) := by decide +kernel
theorem dX1_behindSpaces_16 : decode cX1_behindSpaces 16 = .ok (.bipush 32, 2) := by decide +kernel
theorem dX1_behindSpaces_18 : decode cX1_behindSpaces 18 = .ok (.if_icmp .ne 9, 3) := by decide +kernel
theorem dX1_behindSpaces_21 : decode cX1_behindSpaces 21 = .ok (.iinc 2 1, 3) := by decide +kernel
theorem dX1_behindSpaces_24 : decode cX1_behindSpaces 24 = .ok (.goto (-22), 3) := by decide +kernel
theorem dX1_behindSpaces_27 : decode cX1_behindSpaces 27 = .ok (.iload_n 2, 1) := by decide +kernel
theorem dX1_behindSpaces_28 : decode cX1_behindSpaces 28 = .ok (.ireturn, 1) := by decide +kernel
theorem dX1_behindLetters_0 : decode cX1_behindLetters 0 = .ok (.iload_n 1, 1) := by decide +kernel
theorem dX1_behindLetters_1 : decode cX1_behindLetters 1 = .ok (.istore_n 2, 1) := by decide +kernel
theorem dX1_behindLetters_2 : decode cX1_behindLetters 2 = .ok (.iload_n 2, 1) := by decide +kernel
theorem dX1_behindLetters_3 : decode cX1_behindLetters 3 = .ok (.aload_n 0, 1) := by decide +kernel
theorem dX1_behindLetters_4 : decode cX1_behindLetters 4 = .ok (.getfield 15, 3) := by decide +kernel
theorem dX1_behindLetters_7 : decode cX1_behindLetters 7 = .ok (.if_icmp .ge 31, 3) := by decide +kernel
theorem dX1_behindLetters_10 : decode cX1_behindLetters 10 = .ok (.aload_n 0, 1) := by decide +kernel
theorem dX1_behindLetters_11 : decode cX1_behindLetters 11 = .ok (.getfield 9, 3) := by decide +kernel
theorem dX1_behindLetters_14 : decode cX1_behindLetters 14 = .ok (.iload_n 2, 1) := by decide +kernel
theorem dX1_behindLetters_15 : decode cX1_behindLetters 15 = .ok (.iaload, 1) := by decide +kernel
theorem dX1_behindLetters_16 : decode cX1_behindLetters 16 = .ok (.bipush 97, 2) := by decide +kernel
theorem dX1_behindLetters_18 : decode cX1_behindLetters 18 = .ok (.if_icmp .lt 20, 3) := by decide +kernel
theorem dX1_behindLetters_21 : decode cX1_behindLetters 21 = .ok (.aload_n 0, 1) := by decide +kernel
theorem dX1_behindLetters_22 : decode cX1_behindLetters 22 = .ok (.getfield 9, 3) := by decide +kernel
theorem dX1_behindLetters_25 : decode cX1_behindLetters 25 = .ok (.iload_n 2, 1) := by decide +kernel
theorem dX1_behindLetters_26 : decode cX1_behindLetters 26 = .ok (.iaload, 1) := by decide +kernel
theorem dX1_behindLetters_27 : decode cX1_behindLetters 27 = .ok (.bipush 122, 2) := by decide +kernel
theorem dX1_behindLetters_29 : decode cX1_behindLetters 29 = .ok (.if_icmp .gt 9, 3) := by decide +kernel
theorem dX1_behindLetters_32 : decode cX1_behindLetters 32 = .ok (.iinc 2 1, 3) := by decide +kernel
theorem dX1_behindLetters_35 : decode cX1_behindLetters 35 = .ok (.goto (-33), 3) := by decide +kernel
theorem dX1_behindLetters_38 : decode cX1_behindLetters 38 = .ok (.iload_n 2, 1) := by decide +kernel
theorem dX1_behindLetters_39 : decode cX1_behindLetters 39 = .ok (.ireturn, 1) := by decide +kernel
theorem dX1_behindCommand_0 : decode cX1_behindCommand 0 = .ok (.aload_n 0, 1) := by decide +kernel
theorem dX1_behindCommand_1 : decode cX1_behindCommand 1 = .ok (.iload_n 1, 1) := by decide +kernel
theorem dX1_behindCommand_2 : decode cX1_behindCommand 2 = .ok (.invokevirtual 38, 3) := by decide +kernel
theorem dX1_behindCommand_5 : decode cX1_behindCommand 5 = .ok (.istore_n 2, 1) := by decide +kernel
theorem dX1_behindCommand_6 : decode cX1_behindCommand 6 = .ok (.aload_n 0, 1) := by decide +kernel
theorem dX1_behindCommand_7 : decode cX1_behindCommand 7 = .ok (.iload_n 1, 1) := by decide +kernel
theorem dX1_behindCommand_8 : decode cX1_behindCommand 8 = .ok (.iload_n 2, 1) := by decide +kernel
theorem dX1_behindCommand_9 : decode cX1_behindCommand 9 = .ok (.invokevirtual 41, 3) := by decide +kernel
theorem dX1_behindCommand_12 : decode cX1_behindCommand 12 = .ok (.istore_n 3, 1) := by decide +kernel
theorem dX1_behindCommand_13 : decode cX1_behindCommand 13 = .ok (.iload_n 3, 1) := by decide +kernel
theorem dX1_behindCommand_14 : decode cX1_behindCommand 14 = .ok (.iconst (-1), 1) := by decide +kernel
theorem dX1_behindCommand_15 : decode cX1_behindCommand 15 = .ok (.if_icmp .ne 8, 3) := by decide +kernel
theorem dX1_behindCommand_18 : decode cX1_behindCommand 18 = .ok (.iload_n 1, 1) := by decide +kernel
theorem dX1_behindCommand_19 : decode cX1_behindCommand 19 = .ok (.invokestatic 45, 3) := by decide +kernel
theorem dX1_behindCommand_22 : decode cX1_behindCommand 22 = .ok (.ireturn, 1) := by decide +kernel
theorem dX1_behindCommand_23 : decode cX1_behindCommand 23 = .ok (.aload_n 0, 1) := by decide +kernel
theorem dX1_behindCommand_24 : decode cX1_behindCommand 24 = .ok (.getfield 19, 3) := by decide +kernel
theorem dX1_behindCommand_27 : decode cX1_behindCommand 27 = .ok (.aload_n 0, 1) := by decide +kernel
theorem dX1_behindCommand_28 : decode cX1_behindCommand 28 = .ok (.getfield 25, 3) := by decide +kernel
theorem dX1_behindCommand_31 : decode cX1_behindCommand 31 = .ok (.iload_n 3, 1) := by decide +kernel
theorem dX1_behindCommand_32 : decode cX1_behindCommand 32 = .ok (.iastore, 1) := by decide +kernel
theorem dX1_behindCommand_33 : decode cX1_behindCommand 33 = .ok (.iload_n 3, 1) := by decide +kernel
theorem dX1_behindCommand_34 : decode cX1_behindCommand 34 = .ok (.invokestatic 48, 3) := by decide +kernel
theorem dX1_behindCommand_37 : decode cX1_behindCommand 37 = .ok (.ifCond .eq 15, 3) := by decide +kernel
theorem dX1_behindCommand_40 : decode cX1_behindCommand 40 = .ok (.aload_n 0, 1) := by decide +kernel
theorem dX1_behindCommand_41 : decode cX1_behindCommand 41 = .ok (.iload_n 2, 1) := by decide +kernel
theorem dX1_behindCommand_42 : decode cX1_behindCommand 42 = .ok (.invokevirtual 52, 3) := by decide +kernel
theorem dX1_behindCommand_45 : decode cX1_behindCommand 45 = .ok (.istore_n 2, 1) := by decide +kernel
theorem dX1_behindCommand_46 : decode cX1_behindCommand 46 = .ok (.iload_n 2, 1) := by decide +kernel
theorem dX1_behindCommand_47 : decode cX1_behindCommand 47 = .ok (.ifCond .ge 5, 3) := by decide +kernel
theorem dX1_behindCommand_50 : decode cX1_behindCommand 50 = .ok (.iload_n 2, 1) := by decide +kernel
theorem dX1_behindCommand_51 : decode cX1_behindCommand 51 = .ok (.ireturn, 1) := by decide +kernel
theorem dX1_behindCommand_52 : decode cX1_behindCommand 52 = .ok (.aload_n 0, 1) := by decide +kernel
theorem dX1_behindCommand_53 : decode cX1_behindCommand 53 = .ok (.iload_n 2, 1) := by decide +kernel
theorem dX1_behindCommand_54 : decode cX1_behindCommand 54 = .ok (.invokevirtual 28, 3) := by decide +kernel
theorem dX1_behindCommand_57 : decode cX1_behindCommand 57 = .ok (.istore_n 2, 1) := by decide +kernel
theorem dX1_behindCommand_58 : decode cX1_behindCommand 58 = .ok (.iload_n 2, 1) := by decide +kernel
theorem dX1_behindCommand_59 : decode cX1_behindCommand 59 = .ok (.aload_n 0, 1) := by decide +kernel
theorem dX1_behindCommand_60 : decode cX1_behindCommand 60 = .ok (.getfield 15, 3) := by decide +kernel
theorem dX1_behindCommand_63 : decode cX1_behindCommand 63 = .ok (.if_icmp .ge 14, 3) := by decide +kernel
theorem dX1_behindCommand_66 : decode cX1_behindCommand 66 = .ok (.aload_n 0, 1) := by decide +kernel
theorem dX1_behindCommand_67 : decode cX1_behindCommand 67 = .ok (.getfield 9, 3) := by decide +kernel
theorem dX1_behindCommand_70 : decode cX1_behindCommand 70 = .ok (.iload_n 2, 1) := by decide +kernel
theorem dX1_behindCommand_71 : decode cX1_behindCommand 71 = .ok (.iaload, 1) := by decide +kernel
theorem dX1_behindCommand_72 : decode cX1_behindCommand 72 = .ok (.bipush 59, 2) := by decide +kernel
theorem dX1_behindCommand_74 : decode cX1_behindCommand 74 = .ok (.if_icmp .eq 8, 3) := by decide +kernel
theorem dX1_behindCommand_77 : decode cX1_behindCommand 77 = .ok (.iload_n 2, 1) := by decide +kernel
theorem dX1_behindCommand_78 : decode cX1_behindCommand 78 = .ok (.invokestatic 45, 3) := by decide +kernel
theorem dX1_behindCommand_81 : decode cX1_behindCommand 81 = .ok (.ireturn, 1) := by decide +kernel
theorem dX1_behindCommand_82 : decode cX1_behindCommand 82 = .ok (.iload_n 2, 1) := by decide +kernel
theorem dX1_behindCommand_83 : decode cX1_behindCommand 83 = .ok (.iconst 1, 1) := by decide +kernel
theorem dX1_behindCommand_84 : decode cX1_behindCommand 84 = .ok (.iadd, 1) := by decide +kernel
theorem dX1_behindCommand_85 : decode cX1_behindCommand 85 = .ok (.ireturn, 1) := by decide +kernel
theorem dX1_behindNames_0 : decode cX1_behindNames 0 = .ok (.aload_n 0, 1) := by decide +kernel
theorem dX1_behindNames_1 : decode cX1_behindNames 1 = .ok (.iload_n 1, 1) := by decide +kernel
theorem dX1_behindNames_2 : decode cX1_behindNames 2 = .ok (.invokevirtual 28, 3) := by decide +kernel
theorem dX1_behindNames_5 : decode cX1_behindNames 5 = .ok (.istore_n 2, 1) := by decide +kernel
theorem dX1_behindNames_6 : decode cX1_behindNames 6 = .ok (.iload_n 2, 1) := by decide +kernel
theorem dX1_behindNames_7 : decode cX1_behindNames 7 = .ok (.iload_n 1, 1) := by decide +kernel
theorem dX1_behindNames_8 : decode cX1_behindNames 8 = .ok (.if_icmp .ne 8, 3) := by decide +kernel
theorem dX1_behindNames_11 : decode cX1_behindNames 11 = .ok (.iload_n 1, 1) := by decide +kernel
theorem dX1_behindNames_12 : decode cX1_behindNames 12 = .ok (.invokestatic 45, 3) := by decide +kernel
theorem dX1_behindNames_15 : decode cX1_behindNames 15 = .ok (.ireturn, 1) := by decide +kernel
theorem dX1_behindNames_16 : decode cX1_behindNames 16 = .ok (.iconst 0, 1) := by decide +kernel
theorem dX1_behindNames_17 : decode cX1_behindNames 17 = .ok (.istore_n 3, 1) := by decide +kernel
theorem dX1_behindNames_18 : decode cX1_behindNames 18 = .ok (.iload_n 3, 1) := by decide +kernel
theorem dX1_behindNames_19 : decode cX1_behindNames 19 = .ok (.iconst 3, 1) := by decide +kernel
theorem dX1_behindNames_20 : decode cX1_behindNames 20 = .ok (.if_icmp .ge 69, 3) := by decide +kernel
theorem dX1_behindNames_23 : decode cX1_behindNames 23 = .ok (.iload_n 2, 1) := by decide +kernel
theorem dX1_behindNames_24 : decode cX1_behindNames 24 = .ok (.aload_n 0, 1) := by decide +kernel
theorem dX1_behindNames_25 : decode cX1_behindNames 25 = .ok (.getfield 15, 3) := by decide +kernel
theorem dX1_behindNames_28 : decode cX1_behindNames 28 = .ok (.if_icmp .ge 25, 3) := by decide +kernel
theorem dX1_behindNames_31 : decode cX1_behindNames 31 = .ok (.aload_n 0, 1) := by decide +kernel
theorem dX1_behindNames_32 : decode cX1_behindNames 32 = .ok (.getfield 9, 3) := by decide +kernel
theorem dX1_behindNames_35 : decode cX1_behindNames 35 = .ok (.iload_n 2, 1) := by decide +kernel
theorem dX1_behindNames_36 : decode cX1_behindNames 36 = .ok (.iaload, 1) := by decide +kernel
theorem dX1_behindNames_37 : decode cX1_behindNames 37 = .ok (.bipush 97, 2) := by decide +kernel
theorem dX1_behindNames_39 : decode cX1_behindNames 39 = .ok (.if_icmp .lt 14, 3) := by decide +kernel
theorem dX1_behindNames_42 : decode cX1_behindNames 42 = .ok (.aload_n 0, 1) := by decide +kernel
theorem dX1_behindNames_43 : decode cX1_behindNames 43 = .ok (.getfield 9, 3) := by decide +kernel
theorem dX1_behindNames_46 : decode cX1_behindNames 46 = .ok (.iload_n 2, 1) := by decide +kernel
theorem dX1_behindNames_47 : decode cX1_behindNames 47 = .ok (.iaload, 1) := by decide +kernel
theorem dX1_behindNames_48 : decode cX1_behindNames 48 = .ok (.bipush 104, 2) := by decide +kernel
theorem dX1_behindNames_50 : decode cX1_behindNames 50 = .ok (.if_icmp .le 8, 3) := by decide +kernel
theorem dX1_behindNames_53 : decode cX1_behindNames 53 = .ok (.iload_n 2, 1) := by decide +kernel
theorem dX1_behindNames_54 : decode cX1_behindNames 54 = .ok (.invokestatic 45, 3) := by decide +kernel
theorem dX1_behindNames_57 : decode cX1_behindNames 57 = .ok (.ireturn, 1) := by decide +kernel
theorem dX1_behindNames_58 : decode cX1_behindNames 58 = .ok (.aload_n 0, 1) := by decide +kernel
theorem dX1_behindNames_59 : decode cX1_behindNames 59 = .ok (.getfield 22, 3) := by decide +kernel
theorem dX1_behindNames_62 : decode cX1_behindNames 62 = .ok (.aload_n 0, 1) := by decide +kernel
theorem dX1_behindNames_63 : decode cX1_behindNames 63 = .ok (.getfield 25, 3) := by decide +kernel
theorem dX1_behindNames_66 : decode cX1_behindNames 66 = .ok (.iconst 3, 1) := by decide +kernel
theorem dX1_behindNames_67 : decode cX1_behindNames 67 = .ok (.imul, 1) := by decide +kernel
theorem dX1_behindNames_68 : decode cX1_behindNames 68 = .ok (.iload_n 3, 1) := by decide +kernel
theorem dX1_behindNames_69 : decode cX1_behindNames 69 = .ok (.iadd, 1) := by decide +kernel
theorem dX1_behindNames_70 : decode cX1_behindNames 70 = .ok (.aload_n 0, 1) := by decide +kernel
theorem dX1_behindNames_71 : decode cX1_behindNames 71 = .ok (.getfield 9, 3) := by decide +kernel
theorem dX1_behindNames_74 : decode cX1_behindNames 74 = .ok (.iload_n 2, 1) := by decide +kernel
theorem dX1_behindNames_75 : decode cX1_behindNames 75 = .ok (.iaload, 1) := by decide +kernel
theorem dX1_behindNames_76 : decode cX1_behindNames 76 = .ok (.bipush 97, 2) := by decide +kernel
theorem dX1_behindNames_78 : decode cX1_behindNames 78 = .ok (.isub, 1) := by decide +kernel
theorem dX1_behindNames_79 : decode cX1_behindNames 79 = .ok (.iastore, 1) := by decide +kernel
theorem dX1_behindNames_80 : decode cX1_behindNames 80 = .ok (.iinc 2 1, 3) := by decide +kernel
theorem dX1_behindNames_83 : decode cX1_behindNames 83 = .ok (.iinc 3 1, 3) := by decide +kernel
theorem dX1_behindNames_86 : decode cX1_behindNames 86 = .ok (.goto (-68), 3) := by decide +kernel
theorem dX1_behindNames_89 : decode cX1_behindNames 89 = .ok (.iload_n 2, 1) := by decide +kernel
theorem dX1_behindNames_90 : decode cX1_behindNames 90 = .ok (.ireturn, 1) := by decide +kernel
theorem dX1_name_0 : decode cX1_name 0 = .ok (.aload_n 0, 1) := by decide +kernel
theorem dX1_name_1 : decode cX1_name 1 = .ok (.getfield 22, 3) := by decide +kernel
theorem dX1_name_4 : decode cX1_name 4 = .ok (.iload_n 1, 1) := by decide +kernel
theorem dX1_name_5 : decode cX1_name 5 = .ok (.iconst 3, 1) := by decide +kernel
theorem dX1_name_6 : decode cX1_name 6 = .ok (.imul, 1) := by decide +kernel
theorem dX1_name_7 : decode cX1_name 7 = .ok (.iload_n 2, 1) := by decide +kernel
theorem dX1_name_8 : decode cX1_name 8 = .ok (.iadd, 1) := by decide +kernel
theorem dX1_name_9 : decode cX1_name 9 = .ok (.iaload, 1) := by decide +kernel
theorem dX1_name_10 : decode cX1_name 10 = .ok (.ireturn, 1) := by decide +kernel
theorem dX1_wordBetween_0 : decode cX1_wordBetween 0 = .ok (.iconst 0, 1) := by decide +kernel
theorem dX1_wordBetween_1 : decode cX1_wordBetween 1 = .ok (.istore_n 3, 1) := by decide +kernel
theorem dX1_wordBetween_2 : decode cX1_wordBetween 2 = .ok (.iload_n 3, 1) := by decide +kernel
theorem dX1_wordBetween_3 : decode cX1_wordBetween 3 = .ok (.bipush 6, 2) := by decide +kernel
theorem dX1_wordBetween_5 : decode cX1_wordBetween 5 = .ok (.if_icmp .ge 24, 3) := by decide +kernel
theorem dX1_wordBetween_8 : decode cX1_wordBetween 8 = .ok (.aload_n 0, 1) := by decide +kernel
theorem dX1_wordBetween_9 : decode cX1_wordBetween 9 = .ok (.iload_n 3, 1) := by decide +kernel
theorem dX1_wordBetween_10 : decode cX1_wordBetween 10 = .ok (.invokestatic 55, 3) := by decide +kernel
theorem dX1_wordBetween_13 : decode cX1_wordBetween 13 = .ok (.iload_n 1, 1) := by decide +kernel
theorem dX1_wordBetween_14 : decode cX1_wordBetween 14 = .ok (.iload_n 2, 1) := by decide +kernel
theorem dX1_wordBetween_15 : decode cX1_wordBetween 15 = .ok (.invokevirtual 59, 3) := by decide +kernel
theorem dX1_wordBetween_18 : decode cX1_wordBetween 18 = .ok (.ifCond .eq 5, 3) := by decide +kernel
theorem dX1_wordBetween_21 : decode cX1_wordBetween 21 = .ok (.iload_n 3, 1) := by decide +kernel
theorem dX1_wordBetween_22 : decode cX1_wordBetween 22 = .ok (.ireturn, 1) := by decide +kernel
theorem dX1_wordBetween_23 : decode cX1_wordBetween 23 = .ok (.iinc 3 1, 3) := by decide +kernel
theorem dX1_wordBetween_26 : decode cX1_wordBetween 26 = .ok (.goto (-24), 3) := by decide +kernel
theorem dX1_wordBetween_29 : decode cX1_wordBetween 29 = .ok (.iconst (-1), 1) := by decide +kernel
theorem dX1_wordBetween_30 : decode cX1_wordBetween 30 = .ok (.ireturn, 1) := by decide +kernel
theorem dX1_isSpelled_0 : decode cX1_isSpelled 0 = .ok (.aload_n 1, 1) := by decide +kernel
theorem dX1_isSpelled_1 : decode cX1_isSpelled 1 = .ok (.invokevirtual 63, 3) := by decide +kernel
theorem dX1_isSpelled_4 : decode cX1_isSpelled 4 = .ok (.iload_n 3, 1) := by decide +kernel
theorem dX1_isSpelled_5 : decode cX1_isSpelled 5 = .ok (.iload_n 2, 1) := by decide +kernel
theorem dX1_isSpelled_6 : decode cX1_isSpelled 6 = .ok (.isub, 1) := by decide +kernel
theorem dX1_isSpelled_7 : decode cX1_isSpelled 7 = .ok (.if_icmp .eq 5, 3) := by decide +kernel
theorem dX1_isSpelled_10 : decode cX1_isSpelled 10 = .ok (.iconst 0, 1) := by decide +kernel
theorem dX1_isSpelled_11 : decode cX1_isSpelled 11 = .ok (.ireturn, 1) := by decide +kernel
theorem dX1_isSpelled_12 : decode cX1_isSpelled 12 = .ok (.iconst 0, 1) := by decide +kernel
theorem dX1_isSpelled_13 : decode cX1_isSpelled 13 = .ok (.istore 4, 2) := by decide +kernel
theorem dX1_isSpelled_15 : decode cX1_isSpelled 15 = .ok (.iload 4, 2) := by decide +kernel
theorem dX1_isSpelled_17 : decode cX1_isSpelled 17 = .ok (.aload_n 1, 1) := by decide +kernel
theorem dX1_isSpelled_18 : decode cX1_isSpelled 18 = .ok (.invokevirtual 63, 3) := by decide +kernel
theorem dX1_isSpelled_21 : decode cX1_isSpelled 21 = .ok (.if_icmp .ge 29, 3) := by decide +kernel
theorem dX1_isSpelled_24 : decode cX1_isSpelled 24 = .ok (.aload_n 1, 1) := by decide +kernel
theorem dX1_isSpelled_25 : decode cX1_isSpelled 25 = .ok (.iload 4, 2) := by decide +kernel
theorem dX1_isSpelled_27 : decode cX1_isSpelled 27 = .ok (.invokevirtual 68, 3) := by decide +kernel
theorem dX1_isSpelled_30 : decode cX1_isSpelled 30 = .ok (.aload_n 0, 1) := by decide +kernel
theorem dX1_isSpelled_31 : decode cX1_isSpelled 31 = .ok (.getfield 9, 3) := by decide +kernel
theorem dX1_isSpelled_34 : decode cX1_isSpelled 34 = .ok (.iload_n 2, 1) := by decide +kernel
theorem dX1_isSpelled_35 : decode cX1_isSpelled 35 = .ok (.iload 4, 2) := by decide +kernel
theorem dX1_isSpelled_37 : decode cX1_isSpelled 37 = .ok (.iadd, 1) := by decide +kernel
theorem dX1_isSpelled_38 : decode cX1_isSpelled 38 = .ok (.iaload, 1) := by decide +kernel
theorem dX1_isSpelled_39 : decode cX1_isSpelled 39 = .ok (.if_icmp .eq 5, 3) := by decide +kernel
theorem dX1_isSpelled_42 : decode cX1_isSpelled 42 = .ok (.iconst 0, 1) := by decide +kernel
theorem dX1_isSpelled_43 : decode cX1_isSpelled 43 = .ok (.ireturn, 1) := by decide +kernel
theorem dX1_isSpelled_44 : decode cX1_isSpelled 44 = .ok (.iinc 4 1, 3) := by decide +kernel
theorem dX1_isSpelled_47 : decode cX1_isSpelled 47 = .ok (.goto (-32), 3) := by decide +kernel
theorem dX1_isSpelled_50 : decode cX1_isSpelled 50 = .ok (.iconst 1, 1) := by decide +kernel
theorem dX1_isSpelled_51 : decode cX1_isSpelled 51 = .ok (.ireturn, 1) := by decide +kernel
theorem dX1_hasNames_0 : decode cX1_hasNames 0 = .ok (.iload_n 0, 1) := by decide +kernel
theorem dX1_hasNames_1 : decode cX1_hasNames 1 = .ok (.iconst 4, 1) := by decide +kernel
theorem dX1_hasNames_2 : decode cX1_hasNames 2 = .ok (.if_icmp .eq 12, 3) := by decide +kernel
theorem dX1_hasNames_5 : decode cX1_hasNames 5 = .ok (.iload_n 0, 1) := by decide +kernel
theorem dX1_hasNames_6 : decode cX1_hasNames 6 = .ok (.iconst 5, 1) := by decide +kernel
theorem dX1_hasNames_7 : decode cX1_hasNames 7 = .ok (.if_icmp .eq 7, 3) := by decide +kernel
theorem dX1_hasNames_10 : decode cX1_hasNames 10 = .ok (.iconst 1, 1) := by decide +kernel
theorem dX1_hasNames_11 : decode cX1_hasNames 11 = .ok (.goto 4, 3) := by decide +kernel
theorem dX1_hasNames_14 : decode cX1_hasNames 14 = .ok (.iconst 0, 1) := by decide +kernel
theorem dX1_hasNames_15 : decode cX1_hasNames 15 = .ok (.ireturn, 1) := by decide +kernel
theorem dX1_spelling_0 : decode cX1_spelling 0 = .ok (.iload_n 0, 1) := by decide +kernel
theorem dX1_spelling_1 : decode cX1_spelling 1 = .ok (.tableswitch 50 0 4 #[35, 38, 41, 44, 47], 35) := by decide +kernel
theorem dX1_spelling_36 : decode cX1_spelling 36 = .ok (.ldc 72, 2) := by decide +kernel
theorem dX1_spelling_38 : decode cX1_spelling 38 = .ok (.areturn, 1) := by decide +kernel
theorem dX1_spelling_39 : decode cX1_spelling 39 = .ok (.ldc 74, 2) := by decide +kernel
theorem dX1_spelling_41 : decode cX1_spelling 41 = .ok (.areturn, 1) := by decide +kernel
theorem dX1_spelling_42 : decode cX1_spelling 42 = .ok (.ldc 76, 2) := by decide +kernel
theorem dX1_spelling_44 : decode cX1_spelling 44 = .ok (.areturn, 1) := by decide +kernel
theorem dX1_spelling_45 : decode cX1_spelling 45 = .ok (.ldc 78, 2) := by decide +kernel
theorem dX1_spelling_47 : decode cX1_spelling 47 = .ok (.areturn, 1) := by decide +kernel
theorem dX1_spelling_48 : decode cX1_spelling 48 = .ok (.ldc 80, 2) := by decide +kernel
theorem dX1_spelling_50 : decode cX1_spelling 50 = .ok (.areturn, 1) := by decide +kernel
theorem dX1_spelling_51 : decode cX1_spelling 51 = .ok (.ldc 82, 2) := by decide +kernel
theorem dX1_spelling_53 : decode cX1_spelling 53 = .ok (.areturn, 1) := by decide +kernel
theorem dX1_wordFor_0 : decode cX1_wordFor 0 = .ok (.iload_n 0, 1) := by decide +kernel
theorem dX1_wordFor_1 : decode cX1_wordFor 1 = .ok (.ifCond .ne 5, 3) := by decide +kernel
theorem dX1_wordFor_4 : decode cX1_wordFor 4 = .ok (.iconst 2, 1) := by decide +kernel
theorem dX1_wordFor_5 : decode cX1_wordFor 5 = .ok (.ireturn, 1) := by decide +kernel
theorem dX1_wordFor_6 : decode cX1_wordFor 6 = .ok (.iload_n 0, 1) := by decide +kernel
theorem dX1_wordFor_7 : decode cX1_wordFor 7 = .ok (.ifCond .le 7, 3) := by decide +kernel
theorem dX1_wordFor_10 : decode cX1_wordFor 10 = .ok (.iconst 0, 1) := by decide +kernel
theorem dX1_wordFor_11 : decode cX1_wordFor 11 = .ok (.goto 4, 3) := by decide +kernel
theorem dX1_wordFor_14 : decode cX1_wordFor 14 = .ok (.iconst 1, 1) := by decide +kernel
theorem dX1_wordFor_15 : decode cX1_wordFor 15 = .ok (.ireturn, 1) := by decide +kernel
theorem dX1_signOf_0 : decode cX1_signOf 0 = .ok (.iload_n 0, 1) := by decide +kernel
theorem dX1_signOf_1 : decode cX1_signOf 1 = .ok (.iconst 2, 1) := by decide +kernel
theorem dX1_signOf_2 : decode cX1_signOf 2 = .ok (.if_icmp .ne 5, 3) := by decide +kernel
theorem dX1_signOf_5 : decode cX1_signOf 5 = .ok (.iconst 0, 1) := by decide +kernel
theorem dX1_signOf_6 : decode cX1_signOf 6 = .ok (.ireturn, 1) := by decide +kernel
theorem dX1_signOf_7 : decode cX1_signOf 7 = .ok (.iload_n 0, 1) := by decide +kernel
theorem dX1_signOf_8 : decode cX1_signOf 8 = .ok (.ifCond .ne 7, 3) := by decide +kernel
theorem dX1_signOf_11 : decode cX1_signOf 11 = .ok (.iconst 1, 1) := by decide +kernel
theorem dX1_signOf_12 : decode cX1_signOf 12 = .ok (.goto 4, 3) := by decide +kernel
theorem dX1_signOf_15 : decode cX1_signOf 15 = .ok (.iconst (-1), 1) := by decide +kernel
theorem dX1_signOf_16 : decode cX1_signOf 16 = .ok (.ireturn, 1) := by decide +kernel
theorem dX2_init_0 : decode cX2_init 0 = .ok (.aload_n 0, 1) := by decide +kernel
theorem dX2_init_1 : decode cX2_init 1 = .ok (.invokespecial 3, 3) := by decide +kernel
theorem dX2_init_4 : decode cX2_init 4 = .ok (.aload_n 0, 1) := by decide +kernel
theorem dX2_init_5 : decode cX2_init 5 = .ok (.iconst 0, 1) := by decide +kernel
theorem dX2_init_6 : decode cX2_init 6 = .ok (.putfield 9, 3) := by decide +kernel
theorem dX2_init_9 : decode cX2_init 9 = .ok (.aload_n 0, 1) := by decide +kernel
theorem dX2_init_10 : decode cX2_init 10 = .ok (.iconst 0, 1) := by decide +kernel
theorem dX2_init_11 : decode cX2_init 11 = .ok (.putfield 15, 3) := by decide +kernel
theorem dX2_init_14 : decode cX2_init 14 = .ok (.aload_n 0, 1) := by decide +kernel
theorem dX2_init_15 : decode cX2_init 15 = .ok (.bipush (-100), 2) := by decide +kernel
theorem dX2_init_17 : decode cX2_init 17 = .ok (.putfield 19, 3) := by decide +kernel
theorem dX2_init_20 : decode cX2_init 20 = .ok (.aload_n 0, 1) := by decide +kernel
theorem dX2_init_21 : decode cX2_init 21 = .ok (.bipush 56, 2) := by decide +kernel
theorem dX2_init_23 : decode cX2_init 23 = .ok (.newarray .int, 2) := by decide +kernel
theorem dX2_init_25 : decode cX2_init 25 = .ok (.putfield 22, 3) := by decide +kernel
theorem dX2_init_28 : decode cX2_init 28 = .ok (.aload_n 0, 1) := by decide +kernel
theorem dX2_init_29 : decode cX2_init 29 = .ok (.bipush 56, 2) := by decide +kernel
theorem dX2_init_31 : decode cX2_init 31 = .ok (.newarray .int, 2) := by decide +kernel
theorem dX2_init_33 : decode cX2_init 33 = .ok (.putfield 26, 3) := by decide +kernel
theorem dX2_init_36 : decode cX2_init 36 = .ok (.aload_n 0, 1) := by decide +kernel
theorem dX2_init_37 : decode cX2_init 37 = .ok (.bipush 56, 2) := by decide +kernel
theorem dX2_init_39 : decode cX2_init 39 = .ok (.newarray .int, 2) := by decide +kernel
theorem dX2_init_41 : decode cX2_init 41 = .ok (.putfield 29, 3) := by decide +kernel
theorem dX2_init_44 : decode cX2_init 44 = .ok (.aload_n 0, 1) := by decide +kernel
theorem dX2_init_45 : decode cX2_init 45 = .ok (.bipush 56, 2) := by decide +kernel
theorem dX2_init_47 : decode cX2_init 47 = .ok (.newarray .int, 2) := by decide +kernel
theorem dX2_init_49 : decode cX2_init 49 = .ok (.putfield 32, 3) := by decide +kernel
theorem dX2_init_52 : decode cX2_init 52 = .ok (.aload_n 0, 1) := by decide +kernel
theorem dX2_init_53 : decode cX2_init 53 = .ok (.bipush 56, 2) := by decide +kernel
theorem dX2_init_55 : decode cX2_init 55 = .ok (.newarray .long, 2) := by decide +kernel
theorem dX2_init_57 : decode cX2_init 57 = .ok (.putfield 35, 3) := by decide +kernel
theorem dX2_init_60 : decode cX2_init 60 = .ok (.aload_n 0, 1) := by decide +kernel
theorem dX2_init_61 : decode cX2_init 61 = .ok (.bipush 8, 2) := by decide +kernel
theorem dX2_init_63 : decode cX2_init 63 = .ok (.newarray .int, 2) := by decide +kernel
theorem dX2_init_65 : decode cX2_init 65 = .ok (.putfield 39, 3) := by decide +kernel
theorem dX2_init_68 : decode cX2_init 68 = .ok (.aload_n 0, 1) := by decide +kernel
theorem dX2_init_69 : decode cX2_init 69 = .ok (.bipush 8, 2) := by decide +kernel
theorem dX2_init_71 : decode cX2_init 71 = .ok (.newarray .int, 2) := by decide +kernel
theorem dX2_init_73 : decode cX2_init 73 = .ok (.putfield 42, 3) := by decide +kernel
theorem dX2_init_76 : decode cX2_init 76 = .ok (.return_, 1) := by decide +kernel
theorem dX2_clearFor_0 : decode cX2_clearFor 0 = .ok (.aload_n 0, 1) := by decide +kernel
theorem dX2_clearFor_1 : decode cX2_clearFor 1 = .ok (.iload_n 1, 1) := by decide +kernel
theorem dX2_clearFor_2 : decode cX2_clearFor 2 = .ok (.putfield 9, 3) := by decide +kernel
theorem dX2_clearFor_5 : decode cX2_clearFor 5 = .ok (.aload_n 0, 1) := by decide +kernel
theorem dX2_clearFor_6 : decode cX2_clearFor 6 = .ok (.bipush (-100), 2) := by decide +kernel
theorem dX2_clearFor_8 : decode cX2_clearFor 8 = .ok (.putfield 19, 3) := by decide +kernel
theorem dX2_clearFor_11 : decode cX2_clearFor 11 = .ok (.iconst 0, 1) := by decide +kernel
theorem dX2_clearFor_12 : decode cX2_clearFor 12 = .ok (.istore_n 2, 1) := by decide +kernel
theorem dX2_clearFor_13 : decode cX2_clearFor 13 = .ok (.iload_n 2, 1) := by decide +kernel
theorem dX2_clearFor_14 : decode cX2_clearFor 14 = .ok (.bipush 56, 2) := by decide +kernel
theorem dX2_clearFor_16 : decode cX2_clearFor 16 = .ok (.if_icmp .ge 14, 3) := by decide +kernel
theorem dX2_clearFor_19 : decode cX2_clearFor 19 = .ok (.aload_n 0, 1) := by decide +kernel
theorem dX2_clearFor_20 : decode cX2_clearFor 20 = .ok (.iload_n 2, 1) := by decide +kernel
theorem dX2_clearFor_21 : decode cX2_clearFor 21 = .ok (.invokevirtual 45, 3) := by decide +kernel
theorem dX2_clearFor_24 : decode cX2_clearFor 24 = .ok (.iinc 2 1, 3) := by decide +kernel
theorem dX2_clearFor_27 : decode cX2_clearFor 27 = .ok (.goto (-14), 3) := by decide +kernel
theorem dX2_clearFor_30 : decode cX2_clearFor 30 = .ok (.aload_n 0, 1) := by decide +kernel
theorem dX2_clearFor_31 : decode cX2_clearFor 31 = .ok (.getfield 39, 3) := by decide +kernel
theorem dX2_clearFor_34 : decode cX2_clearFor 34 = .ok (.bipush (-100), 2) := by decide +kernel
theorem dX2_clearFor_36 : decode cX2_clearFor 36 = .ok (.invokestatic 49, 3) := by decide +kernel
theorem dX2_clearFor_39 : decode cX2_clearFor 39 = .ok (.aload_n 0, 1) := by decide +kernel
theorem dX2_clearFor_40 : decode cX2_clearFor 40 = .ok (.getfield 42, 3) := by decide +kernel
theorem dX2_clearFor_43 : decode cX2_clearFor 43 = .ok (.bipush (-100), 2) := by decide +kernel
theorem dX2_clearFor_45 : decode cX2_clearFor 45 = .ok (.invokestatic 49, 3) := by decide +kernel
theorem dX2_clearFor_48 : decode cX2_clearFor 48 = .ok (.return_, 1) := by decide +kernel
theorem dX2_copyFrom_0 : decode cX2_copyFrom 0 = .ok (.aload_n 0, 1) := by decide +kernel
theorem dX2_copyFrom_1 : decode cX2_copyFrom 1 = .ok (.aload_n 1, 1) := by decide +kernel
theorem dX2_copyFrom_2 : decode cX2_copyFrom 2 = .ok (.getfield 9, 3) := by decide +kernel
theorem dX2_copyFrom_5 : decode cX2_copyFrom 5 = .ok (.putfield 9, 3) := by decide +kernel
theorem dX2_copyFrom_8 : decode cX2_copyFrom 8 = .ok (.aload_n 0, 1) := by decide +kernel
theorem dX2_copyFrom_9 : decode cX2_copyFrom 9 = .ok (.aload_n 1, 1) := by decide +kernel
theorem dX2_copyFrom_10 : decode cX2_copyFrom 10 = .ok (.getfield 15, 3) := by decide +kernel
theorem dX2_copyFrom_13 : decode cX2_copyFrom 13 = .ok (.putfield 15, 3) := by decide +kernel
theorem dX2_copyFrom_16 : decode cX2_copyFrom 16 = .ok (.aload_n 0, 1) := by decide +kernel
theorem dX2_copyFrom_17 : decode cX2_copyFrom 17 = .ok (.aload_n 1, 1) := by decide +kernel
theorem dX2_copyFrom_18 : decode cX2_copyFrom 18 = .ok (.getfield 19, 3) := by decide +kernel
theorem dX2_copyFrom_21 : decode cX2_copyFrom 21 = .ok (.putfield 19, 3) := by decide +kernel
theorem dX2_copyFrom_24 : decode cX2_copyFrom 24 = .ok (.aload_n 1, 1) := by decide +kernel
theorem dX2_copyFrom_25 : decode cX2_copyFrom 25 = .ok (.getfield 22, 3) := by decide +kernel
theorem dX2_copyFrom_28 : decode cX2_copyFrom 28 = .ok (.iconst 0, 1) := by decide +kernel
theorem dX2_copyFrom_29 : decode cX2_copyFrom 29 = .ok (.aload_n 0, 1) := by decide +kernel
theorem dX2_copyFrom_30 : decode cX2_copyFrom 30 = .ok (.getfield 22, 3) := by decide +kernel
theorem dX2_copyFrom_33 : decode cX2_copyFrom 33 = .ok (.iconst 0, 1) := by decide +kernel
theorem dX2_copyFrom_34 : decode cX2_copyFrom 34 = .ok (.bipush 56, 2) := by decide +kernel
theorem dX2_copyFrom_36 : decode cX2_copyFrom 36 = .ok (.invokestatic 55, 3) := by decide +kernel
theorem dX2_copyFrom_39 : decode cX2_copyFrom 39 = .ok (.aload_n 1, 1) := by decide +kernel
theorem dX2_copyFrom_40 : decode cX2_copyFrom 40 = .ok (.getfield 26, 3) := by decide +kernel
theorem dX2_copyFrom_43 : decode cX2_copyFrom 43 = .ok (.iconst 0, 1) := by decide +kernel
theorem dX2_copyFrom_44 : decode cX2_copyFrom 44 = .ok (.aload_n 0, 1) := by decide +kernel
theorem dX2_copyFrom_45 : decode cX2_copyFrom 45 = .ok (.getfield 26, 3) := by decide +kernel
theorem dX2_copyFrom_48 : decode cX2_copyFrom 48 = .ok (.iconst 0, 1) := by decide +kernel
theorem dX2_copyFrom_49 : decode cX2_copyFrom 49 = .ok (.bipush 56, 2) := by decide +kernel
theorem dX2_copyFrom_51 : decode cX2_copyFrom 51 = .ok (.invokestatic 55, 3) := by decide +kernel
theorem dX2_copyFrom_54 : decode cX2_copyFrom 54 = .ok (.aload_n 1, 1) := by decide +kernel
theorem dX2_copyFrom_55 : decode cX2_copyFrom 55 = .ok (.getfield 29, 3) := by decide +kernel
theorem dX2_copyFrom_58 : decode cX2_copyFrom 58 = .ok (.iconst 0, 1) := by decide +kernel
theorem dX2_copyFrom_59 : decode cX2_copyFrom 59 = .ok (.aload_n 0, 1) := by decide +kernel
theorem dX2_copyFrom_60 : decode cX2_copyFrom 60 = .ok (.getfield 29, 3) := by decide +kernel
theorem dX2_copyFrom_63 : decode cX2_copyFrom 63 = .ok (.iconst 0, 1) := by decide +kernel
theorem dX2_copyFrom_64 : decode cX2_copyFrom 64 = .ok (.bipush 56, 2) := by decide +kernel
theorem dX2_copyFrom_66 : decode cX2_copyFrom 66 = .ok (.invokestatic 55, 3) := by decide +kernel
theorem dX2_copyFrom_69 : decode cX2_copyFrom 69 = .ok (.aload_n 1, 1) := by decide +kernel
theorem dX2_copyFrom_70 : decode cX2_copyFrom 70 = .ok (.getfield 32, 3) := by decide +kernel
theorem dX2_copyFrom_73 : decode cX2_copyFrom 73 = .ok (.iconst 0, 1) := by decide +kernel
theorem dX2_copyFrom_74 : decode cX2_copyFrom 74 = .ok (.aload_n 0, 1) := by decide +kernel
theorem dX2_copyFrom_75 : decode cX2_copyFrom 75 = .ok (.getfield 32, 3) := by decide +kernel
theorem dX2_copyFrom_78 : decode cX2_copyFrom 78 = .ok (.iconst 0, 1) := by decide +kernel
theorem dX2_copyFrom_79 : decode cX2_copyFrom 79 = .ok (.bipush 56, 2) := by decide +kernel
theorem dX2_copyFrom_81 : decode cX2_copyFrom 81 = .ok (.invokestatic 55, 3) := by decide +kernel
theorem dX2_copyFrom_84 : decode cX2_copyFrom 84 = .ok (.aload_n 1, 1) := by decide +kernel
theorem dX2_copyFrom_85 : decode cX2_copyFrom 85 = .ok (.getfield 35, 3) := by decide +kernel
theorem dX2_copyFrom_88 : decode cX2_copyFrom 88 = .ok (.iconst 0, 1) := by decide +kernel
theorem dX2_copyFrom_89 : decode cX2_copyFrom 89 = .ok (.aload_n 0, 1) := by decide +kernel
theorem dX2_copyFrom_90 : decode cX2_copyFrom 90 = .ok (.getfield 35, 3) := by decide +kernel
theorem dX2_copyFrom_93 : decode cX2_copyFrom 93 = .ok (.iconst 0, 1) := by decide +kernel
theorem dX2_copyFrom_94 : decode cX2_copyFrom 94 = .ok (.bipush 56, 2) := by decide +kernel
theorem dX2_copyFrom_96 : decode cX2_copyFrom 96 = .ok (.invokestatic 55, 3) := by decide +kernel
theorem dX2_copyFrom_99 : decode cX2_copyFrom 99 = .ok (.aload_n 1, 1) := by decide +kernel
theorem dX2_copyFrom_100 : decode cX2_copyFrom 100 = .ok (.getfield 39, 3) := by decide +kernel
theorem dX2_copyFrom_103 : decode cX2_copyFrom 103 = .ok (.iconst 0, 1) := by decide +kernel
theorem dX2_copyFrom_104 : decode cX2_copyFrom 104 = .ok (.aload_n 0, 1) := by decide +kernel
theorem dX2_copyFrom_105 : decode cX2_copyFrom 105 = .ok (.getfield 39, 3) := by decide +kernel
theorem dX2_copyFrom_108 : decode cX2_copyFrom 108 = .ok (.iconst 0, 1) := by decide +kernel
theorem dX2_copyFrom_109 : decode cX2_copyFrom 109 = .ok (.bipush 8, 2) := by decide +kernel
theorem dX2_copyFrom_111 : decode cX2_copyFrom 111 = .ok (.invokestatic 55, 3) := by decide +kernel
theorem dX2_copyFrom_114 : decode cX2_copyFrom 114 = .ok (.aload_n 1, 1) := by decide +kernel
theorem dX2_copyFrom_115 : decode cX2_copyFrom 115 = .ok (.getfield 42, 3) := by decide +kernel
theorem dX2_copyFrom_118 : decode cX2_copyFrom 118 = .ok (.iconst 0, 1) := by decide +kernel
theorem dX2_copyFrom_119 : decode cX2_copyFrom 119 = .ok (.aload_n 0, 1) := by decide +kernel
theorem dX2_copyFrom_120 : decode cX2_copyFrom 120 = .ok (.getfield 42, 3) := by decide +kernel
theorem dX2_copyFrom_123 : decode cX2_copyFrom 123 = .ok (.iconst 0, 1) := by decide +kernel
theorem dX2_copyFrom_124 : decode cX2_copyFrom 124 = .ok (.bipush 8, 2) := by decide +kernel
theorem dX2_copyFrom_126 : decode cX2_copyFrom 126 = .ok (.invokestatic 55, 3) := by decide +kernel
theorem dX2_copyFrom_129 : decode cX2_copyFrom 129 = .ok (.return_, 1) := by decide +kernel
theorem dX2_setUnknown_0 : decode cX2_setUnknown 0 = .ok (.aload_n 0, 1) := by decide +kernel
theorem dX2_setUnknown_1 : decode cX2_setUnknown 1 = .ok (.getfield 22, 3) := by decide +kernel
theorem dX2_setUnknown_4 : decode cX2_setUnknown 4 = .ok (.iload_n 1, 1) := by decide +kernel
theorem dX2_setUnknown_5 : decode cX2_setUnknown 5 = .ok (.bipush (-100), 2) := by decide +kernel
theorem dX2_setUnknown_7 : decode cX2_setUnknown 7 = .ok (.iastore, 1) := by decide +kernel
theorem dX2_setUnknown_8 : decode cX2_setUnknown 8 = .ok (.aload_n 0, 1) := by decide +kernel
theorem dX2_setUnknown_9 : decode cX2_setUnknown 9 = .ok (.getfield 26, 3) := by decide +kernel
theorem dX2_setUnknown_12 : decode cX2_setUnknown 12 = .ok (.iload_n 1, 1) := by decide +kernel
theorem dX2_setUnknown_13 : decode cX2_setUnknown 13 = .ok (.iconst 0, 1) := by decide +kernel
theorem dX2_setUnknown_14 : decode cX2_setUnknown 14 = .ok (.iastore, 1) := by decide +kernel
theorem dX2_setUnknown_15 : decode cX2_setUnknown 15 = .ok (.aload_n 0, 1) := by decide +kernel
theorem dX2_setUnknown_16 : decode cX2_setUnknown 16 = .ok (.getfield 29, 3) := by decide +kernel
theorem dX2_setUnknown_19 : decode cX2_setUnknown 19 = .ok (.iload_n 1, 1) := by decide +kernel
theorem dX2_setUnknown_20 : decode cX2_setUnknown 20 = .ok (.bipush (-100), 2) := by decide +kernel
theorem dX2_setUnknown_22 : decode cX2_setUnknown 22 = .ok (.iastore, 1) := by decide +kernel
theorem dX2_setUnknown_23 : decode cX2_setUnknown 23 = .ok (.aload_n 0, 1) := by decide +kernel
theorem dX2_setUnknown_24 : decode cX2_setUnknown 24 = .ok (.getfield 32, 3) := by decide +kernel
theorem dX2_setUnknown_27 : decode cX2_setUnknown 27 = .ok (.iload_n 1, 1) := by decide +kernel
theorem dX2_setUnknown_28 : decode cX2_setUnknown 28 = .ok (.bipush (-100), 2) := by decide +kernel
theorem dX2_setUnknown_30 : decode cX2_setUnknown 30 = .ok (.iastore, 1) := by decide +kernel
theorem dX2_setUnknown_31 : decode cX2_setUnknown 31 = .ok (.aload_n 0, 1) := by decide +kernel
theorem dX2_setUnknown_32 : decode cX2_setUnknown 32 = .ok (.getfield 35, 3) := by decide +kernel
theorem dX2_setUnknown_35 : decode cX2_setUnknown 35 = .ok (.iload_n 1, 1) := by decide +kernel
theorem dX2_setUnknown_36 : decode cX2_setUnknown 36 = .ok (.lconst 0, 1) := by decide +kernel
theorem dX2_setUnknown_37 : decode cX2_setUnknown 37 = .ok (.lastore, 1) := by decide +kernel
theorem dX2_setUnknown_38 : decode cX2_setUnknown 38 = .ok (.return_, 1) := by decide +kernel
theorem dX2_setGiven_0 : decode cX2_setGiven 0 = .ok (.aload_n 0, 1) := by decide +kernel
theorem dX2_setGiven_1 : decode cX2_setGiven 1 = .ok (.getfield 22, 3) := by decide +kernel
theorem dX2_setGiven_4 : decode cX2_setGiven 4 = .ok (.iload_n 1, 1) := by decide +kernel
theorem dX2_setGiven_5 : decode cX2_setGiven 5 = .ok (.iload_n 2, 1) := by decide +kernel
theorem dX2_setGiven_6 : decode cX2_setGiven 6 = .ok (.iastore, 1) := by decide +kernel
theorem dX2_setGiven_7 : decode cX2_setGiven 7 = .ok (.aload_n 0, 1) := by decide +kernel
theorem dX2_setGiven_8 : decode cX2_setGiven 8 = .ok (.getfield 26, 3) := by decide +kernel
theorem dX2_setGiven_11 : decode cX2_setGiven 11 = .ok (.iload_n 1, 1) := by decide +kernel
theorem dX2_setGiven_12 : decode cX2_setGiven 12 = .ok (.iconst 1, 1) := by decide +kernel
theorem dX2_setGiven_13 : decode cX2_setGiven 13 = .ok (.iastore, 1) := by decide +kernel
theorem dX2_setGiven_14 : decode cX2_setGiven 14 = .ok (.aload_n 0, 1) := by decide +kernel
theorem dX2_setGiven_15 : decode cX2_setGiven 15 = .ok (.getfield 29, 3) := by decide +kernel
theorem dX2_setGiven_18 : decode cX2_setGiven 18 = .ok (.iload_n 1, 1) := by decide +kernel
theorem dX2_setGiven_19 : decode cX2_setGiven 19 = .ok (.bipush (-100), 2) := by decide +kernel
theorem dX2_setGiven_21 : decode cX2_setGiven 21 = .ok (.iastore, 1) := by decide +kernel
theorem dX2_setGiven_22 : decode cX2_setGiven 22 = .ok (.aload_n 0, 1) := by decide +kernel
theorem dX2_setGiven_23 : decode cX2_setGiven 23 = .ok (.getfield 32, 3) := by decide +kernel
theorem dX2_setGiven_26 : decode cX2_setGiven 26 = .ok (.iload_n 1, 1) := by decide +kernel
theorem dX2_setGiven_27 : decode cX2_setGiven 27 = .ok (.bipush (-100), 2) := by decide +kernel
theorem dX2_setGiven_29 : decode cX2_setGiven 29 = .ok (.iastore, 1) := by decide +kernel
theorem dX2_setGiven_30 : decode cX2_setGiven 30 = .ok (.aload_n 0, 1) := by decide +kernel
theorem dX2_setGiven_31 : decode cX2_setGiven 31 = .ok (.getfield 35, 3) := by decide +kernel
theorem dX2_setGiven_34 : decode cX2_setGiven 34 = .ok (.iload_n 1, 1) := by decide +kernel
theorem dX2_setGiven_35 : decode cX2_setGiven 35 = .ok (.lconst 1, 1) := by decide +kernel
theorem dX2_setGiven_36 : decode cX2_setGiven 36 = .ok (.iload_n 1, 1) := by decide +kernel
theorem dX2_setGiven_37 : decode cX2_setGiven 37 = .ok (.lshl, 1) := by decide +kernel
theorem dX2_setGiven_38 : decode cX2_setGiven 38 = .ok (.lastore, 1) := by decide +kernel
theorem dX2_setGiven_39 : decode cX2_setGiven 39 = .ok (.return_, 1) := by decide +kernel
theorem dX2_setDerived_0 : decode cX2_setDerived 0 = .ok (.aload_n 0, 1) := by decide +kernel
theorem dX2_setDerived_1 : decode cX2_setDerived 1 = .ok (.getfield 22, 3) := by decide +kernel
theorem dX2_setDerived_4 : decode cX2_setDerived 4 = .ok (.iload_n 1, 1) := by decide +kernel
theorem dX2_setDerived_5 : decode cX2_setDerived 5 = .ok (.iload_n 2, 1) := by decide +kernel
theorem dX2_setDerived_6 : decode cX2_setDerived 6 = .ok (.iastore, 1) := by decide +kernel
theorem dX2_setDerived_7 : decode cX2_setDerived 7 = .ok (.aload_n 0, 1) := by decide +kernel
theorem dX2_setDerived_8 : decode cX2_setDerived 8 = .ok (.getfield 26, 3) := by decide +kernel
theorem dX2_setDerived_11 : decode cX2_setDerived 11 = .ok (.iload_n 1, 1) := by decide +kernel
theorem dX2_setDerived_12 : decode cX2_setDerived 12 = .ok (.iconst 2, 1) := by decide +kernel
theorem dX2_setDerived_13 : decode cX2_setDerived 13 = .ok (.iastore, 1) := by decide +kernel
theorem dX2_setDerived_14 : decode cX2_setDerived 14 = .ok (.aload_n 0, 1) := by decide +kernel
theorem dX2_setDerived_15 : decode cX2_setDerived 15 = .ok (.getfield 29, 3) := by decide +kernel
theorem dX2_setDerived_18 : decode cX2_setDerived 18 = .ok (.iload_n 1, 1) := by decide +kernel
theorem dX2_setDerived_19 : decode cX2_setDerived 19 = .ok (.iload_n 3, 1) := by decide +kernel
theorem dX2_setDerived_20 : decode cX2_setDerived 20 = .ok (.iastore, 1) := by decide +kernel
theorem dX2_setDerived_21 : decode cX2_setDerived 21 = .ok (.aload_n 0, 1) := by decide +kernel
theorem dX2_setDerived_22 : decode cX2_setDerived 22 = .ok (.getfield 32, 3) := by decide +kernel
theorem dX2_setDerived_25 : decode cX2_setDerived 25 = .ok (.iload_n 1, 1) := by decide +kernel
theorem dX2_setDerived_26 : decode cX2_setDerived 26 = .ok (.iload 4, 2) := by decide +kernel
theorem dX2_setDerived_28 : decode cX2_setDerived 28 = .ok (.iastore, 1) := by decide +kernel
theorem dX2_setDerived_29 : decode cX2_setDerived 29 = .ok (.aload_n 0, 1) := by decide +kernel
theorem dX2_setDerived_30 : decode cX2_setDerived 30 = .ok (.getfield 35, 3) := by decide +kernel
theorem dX2_setDerived_33 : decode cX2_setDerived 33 = .ok (.iload_n 1, 1) := by decide +kernel
theorem dX2_setDerived_34 : decode cX2_setDerived 34 = .ok (.lload 5, 2) := by decide +kernel
theorem dX2_setDerived_36 : decode cX2_setDerived 36 = .ok (.lastore, 1) := by decide +kernel
theorem dX2_setDerived_37 : decode cX2_setDerived 37 = .ok (.return_, 1) := by decide +kernel
theorem dX2_forgetDerived_0 : decode cX2_forgetDerived 0 = .ok (.iconst 0, 1) := by decide +kernel
theorem dX2_forgetDerived_1 : decode cX2_forgetDerived 1 = .ok (.istore_n 1, 1) := by decide +kernel
theorem dX2_forgetDerived_2 : decode cX2_forgetDerived 2 = .ok (.aload_n 0, 1) := by decide +kernel
theorem dX2_forgetDerived_3 : decode cX2_forgetDerived 3 = .ok (.bipush (-100), 2) := by decide +kernel
theorem dX2_forgetDerived_5 : decode cX2_forgetDerived 5 = .ok (.putfield 19, 3) := by decide +kernel
theorem dX2_forgetDerived_8 : decode cX2_forgetDerived 8 = .ok (.iconst 0, 1) := by decide +kernel
theorem dX2_forgetDerived_9 : decode cX2_forgetDerived 9 = .ok (.istore_n 2, 1) := by decide +kernel
theorem dX2_forgetDerived_10 : decode cX2_forgetDerived 10 = .ok (.iload_n 2, 1) := by decide +kernel
theorem dX2_forgetDerived_11 : decode cX2_forgetDerived 11 = .ok (.bipush 56, 2) := by decide +kernel
theorem dX2_forgetDerived_13 : decode cX2_forgetDerived 13 = .ok (.if_icmp .ge 27, 3) := by decide +kernel
theorem dX2_forgetDerived_16 : decode cX2_forgetDerived 16 = .ok (.aload_n 0, 1) := by decide +kernel
theorem dX2_forgetDerived_17 : decode cX2_forgetDerived 17 = .ok (.getfield 26, 3) := by decide +kernel
theorem dX2_forgetDerived_20 : decode cX2_forgetDerived 20 = .ok (.iload_n 2, 1) := by decide +kernel
theorem dX2_forgetDerived_21 : decode cX2_forgetDerived 21 = .ok (.iaload, 1) := by decide +kernel
theorem dX2_forgetDerived_22 : decode cX2_forgetDerived 22 = .ok (.iconst 2, 1) := by decide +kernel
theorem dX2_forgetDerived_23 : decode cX2_forgetDerived 23 = .ok (.if_icmp .ne 11, 3) := by decide +kernel
theorem dX2_forgetDerived_26 : decode cX2_forgetDerived 26 = .ok (.aload_n 0, 1) := by decide +kernel
theorem dX2_forgetDerived_27 : decode cX2_forgetDerived 27 = .ok (.iload_n 2, 1) := by decide +kernel
theorem dX2_forgetDerived_28 : decode cX2_forgetDerived 28 = .ok (.invokevirtual 45, 3) := by decide +kernel
theorem dX2_forgetDerived_31 : decode cX2_forgetDerived 31 = .ok (.iinc 1 1, 3) := by decide +kernel
theorem dX2_forgetDerived_34 : decode cX2_forgetDerived 34 = .ok (.iinc 2 1, 3) := by decide +kernel
theorem dX2_forgetDerived_37 : decode cX2_forgetDerived 37 = .ok (.goto (-27), 3) := by decide +kernel
theorem dX2_forgetDerived_40 : decode cX2_forgetDerived 40 = .ok (.iload_n 1, 1) := by decide +kernel
theorem dX2_forgetDerived_41 : decode cX2_forgetDerived 41 = .ok (.ireturn, 1) := by decide +kernel
theorem dX2_countKind_0 : decode cX2_countKind 0 = .ok (.iconst 0, 1) := by decide +kernel
theorem dX2_countKind_1 : decode cX2_countKind 1 = .ok (.istore_n 3, 1) := by decide +kernel
theorem dX2_countKind_2 : decode cX2_countKind 2 = .ok (.iconst 0, 1) := by decide +kernel
theorem dX2_countKind_3 : decode cX2_countKind 3 = .ok (.istore 4, 2) := by decide +kernel
theorem dX2_countKind_5 : decode cX2_countKind 5 = .ok (.iload 4, 2) := by decide +kernel
theorem dX2_countKind_7 : decode cX2_countKind 7 = .ok (.iload_n 2, 1) := by decide +kernel
theorem dX2_countKind_8 : decode cX2_countKind 8 = .ok (.if_icmp .ge 30, 3) := by decide +kernel
theorem dX2_countKind_11 : decode cX2_countKind 11 = .ok (.iload 4, 2) := by decide +kernel
theorem dX2_countKind_13 : decode cX2_countKind 13 = .ok (.bipush 56, 2) := by decide +kernel
theorem dX2_countKind_15 : decode cX2_countKind 15 = .ok (.if_icmp .ge 23, 3) := by decide +kernel
theorem dX2_countKind_18 : decode cX2_countKind 18 = .ok (.aload_n 0, 1) := by decide +kernel
theorem dX2_countKind_19 : decode cX2_countKind 19 = .ok (.getfield 26, 3) := by decide +kernel
theorem dX2_countKind_22 : decode cX2_countKind 22 = .ok (.iload 4, 2) := by decide +kernel
theorem dX2_countKind_24 : decode cX2_countKind 24 = .ok (.iaload, 1) := by decide +kernel
theorem dX2_countKind_25 : decode cX2_countKind 25 = .ok (.iload_n 1, 1) := by decide +kernel
theorem dX2_countKind_26 : decode cX2_countKind 26 = .ok (.if_icmp .ne 6, 3) := by decide +kernel
theorem dX2_countKind_29 : decode cX2_countKind 29 = .ok (.iinc 3 1, 3) := by decide +kernel
theorem dX2_countKind_32 : decode cX2_countKind 32 = .ok (.iinc 4 1, 3) := by decide +kernel
theorem dX2_countKind_35 : decode cX2_countKind 35 = .ok (.goto (-30), 3) := by decide +kernel
theorem dX2_countKind_38 : decode cX2_countKind 38 = .ok (.iload_n 3, 1) := by decide +kernel
theorem dX2_countKind_39 : decode cX2_countKind 39 = .ok (.ireturn, 1) := by decide +kernel
theorem dX3_init_0 : decode cX3_init 0 = .ok (.aload_n 0, 1) := by decide +kernel
theorem dX3_init_1 : decode cX3_init 1 = .ok (.invokespecial 1, 3) := by decide +kernel
theorem dX3_init_4 : decode cX3_init 4 = .ok (.aload_n 0, 1) := by decide +kernel
theorem dX3_init_5 : decode cX3_init 5 = .ok (.new 7, 3) := by decide +kernel
theorem dX3_init_8 : decode cX3_init 8 = .ok (.dup, 1) := by decide +kernel
theorem dX3_init_9 : decode cX3_init 9 = .ok (.invokespecial 9, 3) := by decide +kernel
theorem dX3_init_12 : decode cX3_init 12 = .ok (.putfield 10, 3) := by decide +kernel
theorem dX3_init_15 : decode cX3_init 15 = .ok (.aload_n 0, 1) := by decide +kernel
theorem dX3_init_16 : decode cX3_init 16 = .ok (.new 16, 3) := by decide +kernel
theorem dX3_init_19 : decode cX3_init 19 = .ok (.dup, 1) := by decide +kernel
theorem dX3_init_20 : decode cX3_init 20 = .ok (.invokespecial 18, 3) := by decide +kernel
theorem dX3_init_23 : decode cX3_init 23 = .ok (.putfield 19, 3) := by decide +kernel
theorem dX3_init_26 : decode cX3_init 26 = .ok (.aload_n 0, 1) := by decide +kernel
theorem dX3_init_27 : decode cX3_init 27 = .ok (.new 23, 3) := by decide +kernel
theorem dX3_init_30 : decode cX3_init 30 = .ok (.dup, 1) := by decide +kernel
theorem dX3_init_31 : decode cX3_init 31 = .ok (.invokespecial 25, 3) := by decide +kernel
theorem dX3_init_34 : decode cX3_init 34 = .ok (.putfield 26, 3) := by decide +kernel
theorem dX3_init_37 : decode cX3_init 37 = .ok (.aload_n 0, 1) := by decide +kernel
theorem dX3_init_38 : decode cX3_init 38 = .ok (.iconst 4, 1) := by decide +kernel
theorem dX3_init_39 : decode cX3_init 39 = .ok (.anewarray 16, 3) := by decide +kernel
theorem dX3_init_42 : decode cX3_init 42 = .ok (.putfield 30, 3) := by decide +kernel
theorem dX3_init_45 : decode cX3_init 45 = .ok (.aload_n 0, 1) := by decide +kernel
theorem dX3_init_46 : decode cX3_init 46 = .ok (.iconst 0, 1) := by decide +kernel
theorem dX3_init_47 : decode cX3_init 47 = .ok (.putfield 34, 3) := by decide +kernel
theorem dX3_init_50 : decode cX3_init 50 = .ok (.aload_n 0, 1) := by decide +kernel
theorem dX3_init_51 : decode cX3_init 51 = .ok (.bipush 56, 2) := by decide +kernel
theorem dX3_init_53 : decode cX3_init 53 = .ok (.newarray .int, 2) := by decide +kernel
theorem dX3_init_55 : decode cX3_init 55 = .ok (.putfield 38, 3) := by decide +kernel
theorem dX3_init_58 : decode cX3_init 58 = .ok (.aload_n 0, 1) := by decide +kernel
theorem dX3_init_59 : decode cX3_init 59 = .ok (.bipush 10, 2) := by decide +kernel
theorem dX3_init_61 : decode cX3_init 61 = .ok (.newarray .int, 2) := by decide +kernel
theorem dX3_init_63 : decode cX3_init 63 = .ok (.putfield 42, 3) := by decide +kernel
theorem dX3_init_66 : decode cX3_init 66 = .ok (.aload_n 0, 1) := by decide +kernel
theorem dX3_init_67 : decode cX3_init 67 = .ok (.bipush 28, 2) := by decide +kernel
theorem dX3_init_69 : decode cX3_init 69 = .ok (.newarray .int, 2) := by decide +kernel
theorem dX3_init_71 : decode cX3_init 71 = .ok (.putfield 45, 3) := by decide +kernel
theorem dX3_init_74 : decode cX3_init 74 = .ok (.aload_n 0, 1) := by decide +kernel
theorem dX3_init_75 : decode cX3_init 75 = .ok (.bipush 8, 2) := by decide +kernel
theorem dX3_init_77 : decode cX3_init 77 = .ok (.newarray .int, 2) := by decide +kernel
theorem dX3_init_79 : decode cX3_init 79 = .ok (.putfield 48, 3) := by decide +kernel
theorem dX3_init_82 : decode cX3_init 82 = .ok (.aload_n 0, 1) := by decide +kernel
theorem dX3_init_83 : decode cX3_init 83 = .ok (.bipush 8, 2) := by decide +kernel
theorem dX3_init_85 : decode cX3_init 85 = .ok (.newarray .int, 2) := by decide +kernel
theorem dX3_init_87 : decode cX3_init 87 = .ok (.putfield 51, 3) := by decide +kernel
theorem dX3_init_90 : decode cX3_init 90 = .ok (.aload_n 0, 1) := by decide +kernel
theorem dX3_init_91 : decode cX3_init 91 = .ok (.bipush 8, 2) := by decide +kernel
theorem dX3_init_93 : decode cX3_init 93 = .ok (.newarray .int, 2) := by decide +kernel
theorem dX3_init_95 : decode cX3_init 95 = .ok (.putfield 54, 3) := by decide +kernel
theorem dX3_init_98 : decode cX3_init 98 = .ok (.aload_n 0, 1) := by decide +kernel
theorem dX3_init_99 : decode cX3_init 99 = .ok (.bipush 8, 2) := by decide +kernel
theorem dX3_init_101 : decode cX3_init 101 = .ok (.newarray .int, 2) := by decide +kernel
theorem dX3_init_103 : decode cX3_init 103 = .ok (.putfield 57, 3) := by decide +kernel
theorem dX3_init_106 : decode cX3_init 106 = .ok (.iconst 0, 1) := by decide +kernel
theorem dX3_init_107 : decode cX3_init 107 = .ok (.istore_n 1, 1) := by decide +kernel
theorem dX3_init_108 : decode cX3_init 108 = .ok (.iload_n 1, 1) := by decide +kernel
theorem dX3_init_109 : decode cX3_init 109 = .ok (.iconst 4, 1) := by decide +kernel
theorem dX3_init_110 : decode cX3_init 110 = .ok (.if_icmp .ge 22, 3) := by decide +kernel
theorem dX3_init_113 : decode cX3_init 113 = .ok (.aload_n 0, 1) := by decide +kernel
theorem dX3_init_114 : decode cX3_init 114 = .ok (.getfield 30, 3) := by decide +kernel
theorem dX3_init_117 : decode cX3_init 117 = .ok (.iload_n 1, 1) := by decide +kernel
theorem dX3_init_118 : decode cX3_init 118 = .ok (.new 16, 3) := by decide +kernel
theorem dX3_init_121 : decode cX3_init 121 = .ok (.dup, 1) := by decide +kernel
theorem dX3_init_122 : decode cX3_init 122 = .ok (.invokespecial 18, 3) := by decide +kernel
theorem dX3_init_125 : decode cX3_init 125 = .ok (.aastore, 1) := by decide +kernel
theorem dX3_init_126 : decode cX3_init 126 = .ok (.iinc 1 1, 3) := by decide +kernel
theorem dX3_init_129 : decode cX3_init 129 = .ok (.goto (-21), 3) := by decide +kernel
theorem dX3_init_132 : decode cX3_init 132 = .ok (.aload_n 0, 1) := by decide +kernel
theorem dX3_init_133 : decode cX3_init 133 = .ok (.getfield 19, 3) := by decide +kernel
theorem dX3_init_136 : decode cX3_init 136 = .ok (.iconst 5, 1) := by decide +kernel
theorem dX3_init_137 : decode cX3_init 137 = .ok (.invokevirtual 60, 3) := by decide +kernel
theorem dX3_init_140 : decode cX3_init 140 = .ok (.aload_n 0, 1) := by decide +kernel
theorem dX3_init_141 : decode cX3_init 141 = .ok (.getfield 10, 3) := by decide +kernel
theorem dX3_init_144 : decode cX3_init 144 = .ok (.iconst 5, 1) := by decide +kernel
theorem dX3_init_145 : decode cX3_init 145 = .ok (.invokevirtual 64, 3) := by decide +kernel
theorem dX3_init_148 : decode cX3_init 148 = .ok (.return_, 1) := by decide +kernel
theorem dX3_begin_0 : decode cX3_begin 0 = .ok (.iload_n 1, 1) := by decide +kernel
theorem dX3_begin_1 : decode cX3_begin 1 = .ok (.iconst 3, 1) := by decide +kernel
theorem dX3_begin_2 : decode cX3_begin 2 = .ok (.if_icmp .lt 9, 3) := by decide +kernel
theorem dX3_begin_5 : decode cX3_begin 5 = .ok (.iload_n 1, 1) := by decide +kernel
theorem dX3_begin_6 : decode cX3_begin 6 = .ok (.bipush 8, 2) := by decide +kernel
theorem dX3_begin_8 : decode cX3_begin 8 = .ok (.if_icmp .le 13, 3) := by decide +kernel
theorem dX3_begin_11 : decode cX3_begin 11 = .ok (.new 67, 3) := by decide +kernel
theorem dX3_begin_14 : decode cX3_begin 14 = .ok (.dup, 1) := by decide +kernel
theorem dX3_begin_15 : decode cX3_begin 15 = .ok (.ldc 69, 2) := by decide +kernel
theorem dX3_begin_17 : decode cX3_begin 17 = .ok (.invokespecial 71, 3) := by decide +kernel
theorem dX3_begin_20 : decode cX3_begin 20 = .ok (.athrow, 1) := by decide +kernel
theorem dX3_begin_21 : decode cX3_begin 21 = .ok (.aload_n 0, 1) := by decide +kernel
theorem dX3_begin_22 : decode cX3_begin 22 = .ok (.invokevirtual 74, 3) := by decide +kernel
theorem dX3_begin_25 : decode cX3_begin 25 = .ok (.aload_n 0, 1) := by decide +kernel
theorem dX3_begin_26 : decode cX3_begin 26 = .ok (.getfield 19, 3) := by decide +kernel
theorem dX3_begin_29 : decode cX3_begin 29 = .ok (.iload_n 1, 1) := by decide +kernel
theorem dX3_begin_30 : decode cX3_begin 30 = .ok (.invokevirtual 60, 3) := by decide +kernel
theorem dX3_begin_33 : decode cX3_begin 33 = .ok (.aload_n 0, 1) := by decide +kernel
theorem dX3_begin_34 : decode cX3_begin 34 = .ok (.getfield 10, 3) := by decide +kernel
theorem dX3_begin_37 : decode cX3_begin 37 = .ok (.iload_n 1, 1) := by decide +kernel
theorem dX3_begin_38 : decode cX3_begin 38 = .ok (.invokevirtual 64, 3) := by decide +kernel
theorem dX3_begin_41 : decode cX3_begin 41 = .ok (.aload_n 0, 1) := by decide +kernel
theorem dX3_begin_42 : decode cX3_begin 42 = .ok (.getfield 10, 3) := by decide +kernel
theorem dX3_begin_45 : decode cX3_begin 45 = .ok (.getfield 77, 3) := by decide +kernel
theorem dX3_begin_48 : decode cX3_begin 48 = .ok (.ireturn, 1) := by decide +kernel
theorem dX3_give_0 : decode cX3_give 0 = .ok (.aload_n 0, 1) := by decide +kernel
theorem dX3_give_1 : decode cX3_give 1 = .ok (.iload_n 1, 1) := by decide +kernel
theorem dX3_give_2 : decode cX3_give 2 = .ok (.invokevirtual 80, 3) := by decide +kernel
theorem dX3_give_5 : decode cX3_give 5 = .ok (.aload_n 0, 1) := by decide +kernel
theorem dX3_give_6 : decode cX3_give 6 = .ok (.iload_n 2, 1) := by decide +kernel
theorem dX3_give_7 : decode cX3_give 7 = .ok (.invokevirtual 80, 3) := by decide +kernel
theorem dX3_give_10 : decode cX3_give 10 = .ok (.aload_n 0, 1) := by decide +kernel
theorem dX3_give_11 : decode cX3_give 11 = .ok (.iload_n 3, 1) := by decide +kernel
theorem dX3_give_12 : decode cX3_give 12 = .ok (.invokevirtual 80, 3) := by decide +kernel
theorem dX3_give_15 : decode cX3_give 15 = .ok (.iload_n 1, 1) := by decide +kernel
theorem dX3_give_16 : decode cX3_give 16 = .ok (.iload_n 2, 1) := by decide +kernel
theorem dX3_give_17 : decode cX3_give 17 = .ok (.iload_n 3, 1) := by decide +kernel
theorem dX3_give_18 : decode cX3_give 18 = .ok (.invokestatic 83, 3) := by decide +kernel
theorem dX3_give_21 : decode cX3_give 21 = .ok (.iload 4, 2) := by decide +kernel
theorem dX3_give_23 : decode cX3_give 23 = .ok (.iconst (-1), 1) := by decide +kernel
theorem dX3_give_24 : decode cX3_give 24 = .ok (.if_icmp .lt 9, 3) := by decide +kernel
theorem dX3_give_27 : decode cX3_give 27 = .ok (.iload 4, 2) := by decide +kernel
theorem dX3_give_29 : decode cX3_give 29 = .ok (.iconst 1, 1) := by decide +kernel
theorem dX3_give_30 : decode cX3_give 30 = .ok (.if_icmp .le 13, 3) := by decide +kernel
theorem dX3_give_33 : decode cX3_give 33 = .ok (.new 67, 3) := by decide +kernel
theorem dX3_give_36 : decode cX3_give 36 = .ok (.dup, 1) := by decide +kernel
theorem dX3_give_37 : decode cX3_give 37 = .ok (.ldc 87, 2) := by decide +kernel
theorem dX3_give_39 : decode cX3_give 39 = .ok (.invokespecial 71, 3) := by decide +kernel
theorem dX3_give_42 : decode cX3_give 42 = .ok (.athrow, 1) := by decide +kernel
theorem dX3_give_43 : decode cX3_give 43 = .ok (.aload_n 0, 1) := by decide +kernel
theorem dX3_give_44 : decode cX3_give 44 = .ok (.iload_n 1, 1) := by decide +kernel
theorem dX3_give_45 : decode cX3_give 45 = .ok (.iload_n 2, 1) := by decide +kernel
theorem dX3_give_46 : decode cX3_give 46 = .ok (.iload_n 3, 1) := by decide +kernel
theorem dX3_give_47 : decode cX3_give 47 = .ok (.invokevirtual 89, 3) := by decide +kernel
theorem dX3_give_50 : decode cX3_give 50 = .ok (.istore 5, 2) := by decide +kernel
theorem dX3_give_52 : decode cX3_give 52 = .ok (.aload_n 0, 1) := by decide +kernel
theorem dX3_give_53 : decode cX3_give 53 = .ok (.invokevirtual 74, 3) := by decide +kernel
theorem dX3_give_56 : decode cX3_give 56 = .ok (.aload_n 0, 1) := by decide +kernel
theorem dX3_give_57 : decode cX3_give 57 = .ok (.iload_n 1, 1) := by decide +kernel
theorem dX3_give_58 : decode cX3_give 58 = .ok (.iload_n 2, 1) := by decide +kernel
theorem dX3_give_59 : decode cX3_give 59 = .ok (.iload_n 3, 1) := by decide +kernel
theorem dX3_give_60 : decode cX3_give 60 = .ok (.iload 4, 2) := by decide +kernel
theorem dX3_give_62 : decode cX3_give 62 = .ok (.invokevirtual 93, 3) := by decide +kernel
theorem dX3_give_65 : decode cX3_give 65 = .ok (.iload 5, 2) := by decide +kernel
theorem dX3_give_67 : decode cX3_give 67 = .ok (.ireturn, 1) := by decide +kernel
theorem dX3_drop_0 : decode cX3_drop 0 = .ok (.aload_n 0, 1) := by decide +kernel
theorem dX3_drop_1 : decode cX3_drop 1 = .ok (.iload_n 1, 1) := by decide +kernel
theorem dX3_drop_2 : decode cX3_drop 2 = .ok (.invokevirtual 80, 3) := by decide +kernel
theorem dX3_drop_5 : decode cX3_drop 5 = .ok (.aload_n 0, 1) := by decide +kernel
theorem dX3_drop_6 : decode cX3_drop 6 = .ok (.iload_n 2, 1) := by decide +kernel
theorem dX3_drop_7 : decode cX3_drop 7 = .ok (.invokevirtual 80, 3) := by decide +kernel
theorem dX3_drop_10 : decode cX3_drop 10 = .ok (.aload_n 0, 1) := by decide +kernel
theorem dX3_drop_11 : decode cX3_drop 11 = .ok (.iload_n 3, 1) := by decide +kernel
theorem dX3_drop_12 : decode cX3_drop 12 = .ok (.invokevirtual 80, 3) := by decide +kernel
theorem dX3_drop_15 : decode cX3_drop 15 = .ok (.iload_n 1, 1) := by decide +kernel
theorem dX3_drop_16 : decode cX3_drop 16 = .ok (.iload_n 2, 1) := by decide +kernel
theorem dX3_drop_17 : decode cX3_drop 17 = .ok (.iload_n 3, 1) := by decide +kernel
theorem dX3_drop_18 : decode cX3_drop 18 = .ok (.invokestatic 83, 3) := by decide +kernel
theorem dX3_drop_21 : decode cX3_drop 21 = .ok (.aload_n 0, 1) := by decide +kernel
theorem dX3_drop_22 : decode cX3_drop 22 = .ok (.getfield 10, 3) := by decide +kernel
theorem dX3_drop_25 : decode cX3_drop 25 = .ok (.iload_n 1, 1) := by decide +kernel
theorem dX3_drop_26 : decode cX3_drop 26 = .ok (.iload_n 2, 1) := by decide +kernel
theorem dX3_drop_27 : decode cX3_drop 27 = .ok (.iload_n 3, 1) := by decide +kernel
theorem dX3_drop_28 : decode cX3_drop 28 = .ok (.invokevirtual 97, 3) := by decide +kernel
theorem dX3_drop_31 : decode cX3_drop 31 = .ok (.istore 4, 2) := by decide +kernel
theorem dX3_drop_33 : decode cX3_drop 33 = .ok (.aload_n 0, 1) := by decide +kernel
theorem dX3_drop_34 : decode cX3_drop 34 = .ok (.getfield 19, 3) := by decide +kernel
theorem dX3_drop_37 : decode cX3_drop 37 = .ok (.getfield 100, 3) := by decide +kernel
theorem dX3_drop_40 : decode cX3_drop 40 = .ok (.iload 4, 2) := by decide +kernel
theorem dX3_drop_42 : decode cX3_drop 42 = .ok (.iaload, 1) := by decide +kernel
theorem dX3_drop_43 : decode cX3_drop 43 = .ok (.iconst 1, 1) := by decide +kernel
theorem dX3_drop_44 : decode cX3_drop 44 = .ok (.if_icmp .eq 13, 3) := by decide +kernel
theorem dX3_drop_47 : decode cX3_drop 47 = .ok (.new 103, 3) := by decide +kernel
theorem dX3_drop_50 : decode cX3_drop 50 = .ok (.dup, 1) := by decide +kernel
theorem dX3_drop_51 : decode cX3_drop 51 = .ok (.ldc 105, 2) := by decide +kernel
theorem dX3_drop_53 : decode cX3_drop 53 = .ok (.invokespecial 107, 3) := by decide +kernel
theorem dX3_drop_56 : decode cX3_drop 56 = .ok (.athrow, 1) := by decide +kernel
theorem dX3_drop_57 : decode cX3_drop 57 = .ok (.aload_n 0, 1) := by decide +kernel
theorem dX3_drop_58 : decode cX3_drop 58 = .ok (.iload_n 1, 1) := by decide +kernel
theorem dX3_drop_59 : decode cX3_drop 59 = .ok (.iload_n 2, 1) := by decide +kernel
theorem dX3_drop_60 : decode cX3_drop 60 = .ok (.iload_n 3, 1) := by decide +kernel
theorem dX3_drop_61 : decode cX3_drop 61 = .ok (.invokevirtual 89, 3) := by decide +kernel
theorem dX3_drop_64 : decode cX3_drop 64 = .ok (.istore 5, 2) := by decide +kernel
theorem dX3_drop_66 : decode cX3_drop 66 = .ok (.aload_n 0, 1) := by decide +kernel
theorem dX3_drop_67 : decode cX3_drop 67 = .ok (.invokevirtual 74, 3) := by decide +kernel
theorem dX3_drop_70 : decode cX3_drop 70 = .ok (.aload_n 0, 1) := by decide +kernel
theorem dX3_drop_71 : decode cX3_drop 71 = .ok (.iload 4, 2) := by decide +kernel
theorem dX3_drop_73 : decode cX3_drop 73 = .ok (.invokevirtual 108, 3) := by decide +kernel
theorem dX3_drop_76 : decode cX3_drop 76 = .ok (.iload 5, 2) := by decide +kernel
theorem dX3_drop_78 : decode cX3_drop 78 = .ok (.ireturn, 1) := by decide +kernel
theorem dX3_setUniform_0 : decode cX3_setUniform 0 = .ok (.aload_n 0, 1) := by decide +kernel
theorem dX3_setUniform_1 : decode cX3_setUniform 1 = .ok (.getfield 19, 3) := by decide +kernel
theorem dX3_setUniform_4 : decode cX3_setUniform 4 = .ok (.getfield 111, 3) := by decide +kernel
theorem dX3_setUniform_7 : decode cX3_setUniform 7 = .ok (.istore_n 2, 1) := by decide +kernel
theorem dX3_setUniform_8 : decode cX3_setUniform 8 = .ok (.aload_n 0, 1) := by decide +kernel
theorem dX3_setUniform_9 : decode cX3_setUniform 9 = .ok (.invokevirtual 74, 3) := by decide +kernel
theorem dX3_setUniform_12 : decode cX3_setUniform 12 = .ok (.aload_n 0, 1) := by decide +kernel
theorem dX3_setUniform_13 : decode cX3_setUniform 13 = .ok (.getfield 19, 3) := by decide +kernel
theorem dX3_setUniform_16 : decode cX3_setUniform 16 = .ok (.invokevirtual 115, 3) := by decide +kernel
theorem dX3_setUniform_19 : decode cX3_setUniform 19 = .ok (.pop, 1) := by decide +kernel
theorem dX3_setUniform_20 : decode cX3_setUniform 20 = .ok (.aload_n 0, 1) := by decide +kernel
theorem dX3_setUniform_21 : decode cX3_setUniform 21 = .ok (.getfield 19, 3) := by decide +kernel
theorem dX3_setUniform_24 : decode cX3_setUniform 24 = .ok (.iload_n 1, 1) := by decide +kernel
theorem dX3_setUniform_25 : decode cX3_setUniform 25 = .ok (.putfield 111, 3) := by decide +kernel
theorem dX3_setUniform_28 : decode cX3_setUniform 28 = .ok (.iload_n 2, 1) := by decide +kernel
theorem dX3_setUniform_29 : decode cX3_setUniform 29 = .ok (.ireturn, 1) := by decide +kernel
theorem dX3_derive_0 : decode cX3_derive 0 = .ok (.aload_n 0, 1) := by decide +kernel
theorem dX3_derive_1 : decode cX3_derive 1 = .ok (.invokevirtual 74, 3) := by decide +kernel
theorem dX3_derive_4 : decode cX3_derive 4 = .ok (.aload_n 0, 1) := by decide +kernel
theorem dX3_derive_5 : decode cX3_derive 5 = .ok (.invokevirtual 119, 3) := by decide +kernel
theorem dX3_derive_8 : decode cX3_derive 8 = .ok (.ireturn, 1) := by decide +kernel
theorem dX3_forget_0 : decode cX3_forget 0 = .ok (.aload_n 0, 1) := by decide +kernel
theorem dX3_forget_1 : decode cX3_forget 1 = .ok (.invokevirtual 74, 3) := by decide +kernel
theorem dX3_forget_4 : decode cX3_forget 4 = .ok (.aload_n 0, 1) := by decide +kernel
theorem dX3_forget_5 : decode cX3_forget 5 = .ok (.getfield 19, 3) := by decide +kernel
theorem dX3_forget_8 : decode cX3_forget 8 = .ok (.invokevirtual 115, 3) := by decide +kernel
theorem dX3_forget_11 : decode cX3_forget 11 = .ok (.ireturn, 1) := by decide +kernel
theorem dX3_mirror_0 : decode cX3_mirror 0 = .ok (.aload_n 0, 1) := by decide +kernel
theorem dX3_mirror_1 : decode cX3_mirror 1 = .ok (.invokevirtual 74, 3) := by decide +kernel
theorem dX3_mirror_4 : decode cX3_mirror 4 = .ok (.aload_n 0, 1) := by decide +kernel
theorem dX3_mirror_5 : decode cX3_mirror 5 = .ok (.invokevirtual 122, 3) := by decide +kernel
theorem dX3_mirror_8 : decode cX3_mirror 8 = .ok (.ireturn, 1) := by decide +kernel
theorem dX3_turn_0 : decode cX3_turn 0 = .ok (.aload_n 0, 1) := by decide +kernel
theorem dX3_turn_1 : decode cX3_turn 1 = .ok (.iload_n 1, 1) := by decide +kernel
theorem dX3_turn_2 : decode cX3_turn 2 = .ok (.invokevirtual 80, 3) := by decide +kernel
theorem dX3_turn_5 : decode cX3_turn 5 = .ok (.aload_n 0, 1) := by decide +kernel
theorem dX3_turn_6 : decode cX3_turn 6 = .ok (.invokevirtual 74, 3) := by decide +kernel
theorem dX3_turn_9 : decode cX3_turn 9 = .ok (.iconst 0, 1) := by decide +kernel
theorem dX3_turn_10 : decode cX3_turn 10 = .ok (.istore_n 2, 1) := by decide +kernel
theorem dX3_turn_11 : decode cX3_turn 11 = .ok (.iconst 0, 1) := by decide +kernel
theorem dX3_turn_12 : decode cX3_turn 12 = .ok (.istore_n 3, 1) := by decide +kernel
theorem dX3_turn_13 : decode cX3_turn 13 = .ok (.iload_n 3, 1) := by decide +kernel
theorem dX3_turn_14 : decode cX3_turn 14 = .ok (.aload_n 0, 1) := by decide +kernel
theorem dX3_turn_15 : decode cX3_turn 15 = .ok (.getfield 10, 3) := by decide +kernel
theorem dX3_turn_18 : decode cX3_turn 18 = .ok (.getfield 77, 3) := by decide +kernel
theorem dX3_turn_21 : decode cX3_turn 21 = .ok (.if_icmp .ge 55, 3) := by decide +kernel
theorem dX3_turn_24 : decode cX3_turn 24 = .ok (.aload_n 0, 1) := by decide +kernel
theorem dX3_turn_25 : decode cX3_turn 25 = .ok (.getfield 10, 3) := by decide +kernel
theorem dX3_turn_28 : decode cX3_turn 28 = .ok (.iload_n 3, 1) := by decide +kernel
theorem dX3_turn_29 : decode cX3_turn 29 = .ok (.iload_n 1, 1) := by decide +kernel
theorem dX3_turn_30 : decode cX3_turn 30 = .ok (.invokevirtual 125, 3) := by decide +kernel
theorem dX3_turn_33 : decode cX3_turn 33 = .ok (.ifCond .eq 37, 3) := by decide +kernel
theorem dX3_turn_36 : decode cX3_turn 36 = .ok (.aload_n 0, 1) := by decide +kernel
theorem dX3_turn_37 : decode cX3_turn 37 = .ok (.getfield 19, 3) := by decide +kernel
theorem dX3_turn_40 : decode cX3_turn 40 = .ok (.getfield 100, 3) := by decide +kernel
theorem dX3_turn_43 : decode cX3_turn 43 = .ok (.iload_n 3, 1) := by decide +kernel
theorem dX3_turn_44 : decode cX3_turn 44 = .ok (.iaload, 1) := by decide +kernel
theorem dX3_turn_45 : decode cX3_turn 45 = .ok (.ifCond .eq 25, 3) := by decide +kernel
theorem dX3_turn_48 : decode cX3_turn 48 = .ok (.aload_n 0, 1) := by decide +kernel
theorem dX3_turn_49 : decode cX3_turn 49 = .ok (.getfield 19, 3) := by decide +kernel
theorem dX3_turn_52 : decode cX3_turn 52 = .ok (.getfield 129, 3) := by decide +kernel
theorem dX3_turn_55 : decode cX3_turn 55 = .ok (.iload_n 3, 1) := by decide +kernel
theorem dX3_turn_56 : decode cX3_turn 56 = .ok (.aload_n 0, 1) := by decide +kernel
theorem dX3_turn_57 : decode cX3_turn 57 = .ok (.getfield 19, 3) := by decide +kernel
theorem dX3_turn_60 : decode cX3_turn 60 = .ok (.getfield 129, 3) := by decide +kernel
theorem dX3_turn_63 : decode cX3_turn 63 = .ok (.iload_n 3, 1) := by decide +kernel
theorem dX3_turn_64 : decode cX3_turn 64 = .ok (.iaload, 1) := by decide +kernel
theorem dX3_turn_65 : decode cX3_turn 65 = .ok (.ineg, 1) := by decide +kernel
theorem dX3_turn_66 : decode cX3_turn 66 = .ok (.iastore, 1) := by decide +kernel
theorem dX3_turn_67 : decode cX3_turn 67 = .ok (.iinc 2 1, 3) := by decide +kernel
theorem dX3_turn_70 : decode cX3_turn 70 = .ok (.iinc 3 1, 3) := by decide +kernel
theorem dX3_turn_73 : decode cX3_turn 73 = .ok (.goto (-60), 3) := by decide +kernel
theorem dX3_turn_76 : decode cX3_turn 76 = .ok (.iload_n 2, 1) := by decide +kernel
theorem dX3_turn_77 : decode cX3_turn 77 = .ok (.ireturn, 1) := by decide +kernel
theorem dX3_exchange_0 : decode cX3_exchange 0 = .ok (.aload_n 0, 1) := by decide +kernel
theorem dX3_exchange_1 : decode cX3_exchange 1 = .ok (.iload_n 1, 1) := by decide +kernel
theorem dX3_exchange_2 : decode cX3_exchange 2 = .ok (.invokevirtual 80, 3) := by decide +kernel
theorem dX3_exchange_5 : decode cX3_exchange 5 = .ok (.aload_n 0, 1) := by decide +kernel
theorem dX3_exchange_6 : decode cX3_exchange 6 = .ok (.iload_n 2, 1) := by decide +kernel
theorem dX3_exchange_7 : decode cX3_exchange 7 = .ok (.invokevirtual 80, 3) := by decide +kernel
theorem dX3_exchange_10 : decode cX3_exchange 10 = .ok (.iload_n 1, 1) := by decide +kernel
theorem dX3_exchange_11 : decode cX3_exchange 11 = .ok (.iload_n 2, 1) := by decide +kernel
theorem dX3_exchange_12 : decode cX3_exchange 12 = .ok (.if_icmp .ne 13, 3) := by decide +kernel
theorem dX3_exchange_15 : decode cX3_exchange 15 = .ok (.new 67, 3) := by decide +kernel
theorem dX3_exchange_18 : decode cX3_exchange 18 = .ok (.dup, 1) := by decide +kernel
theorem dX3_exchange_19 : decode cX3_exchange 19 = .ok (.ldc 132, 2) := by decide +kernel
theorem dX3_exchange_21 : decode cX3_exchange 21 = .ok (.invokespecial 71, 3) := by decide +kernel
theorem dX3_exchange_24 : decode cX3_exchange 24 = .ok (.athrow, 1) := by decide +kernel
theorem dX3_exchange_25 : decode cX3_exchange 25 = .ok (.aload_n 0, 1) := by decide +kernel
theorem dX3_exchange_26 : decode cX3_exchange 26 = .ok (.invokevirtual 74, 3) := by decide +kernel
theorem dX3_exchange_29 : decode cX3_exchange 29 = .ok (.aload_n 0, 1) := by decide +kernel
theorem dX3_exchange_30 : decode cX3_exchange 30 = .ok (.getfield 19, 3) := by decide +kernel
theorem dX3_exchange_33 : decode cX3_exchange 33 = .ok (.invokevirtual 115, 3) := by decide +kernel
theorem dX3_exchange_36 : decode cX3_exchange 36 = .ok (.pop, 1) := by decide +kernel
theorem dX3_exchange_37 : decode cX3_exchange 37 = .ok (.aload_n 0, 1) := by decide +kernel
theorem dX3_exchange_38 : decode cX3_exchange 38 = .ok (.iload_n 1, 1) := by decide +kernel
theorem dX3_exchange_39 : decode cX3_exchange 39 = .ok (.iload_n 2, 1) := by decide +kernel
theorem dX3_exchange_40 : decode cX3_exchange 40 = .ok (.invokevirtual 134, 3) := by decide +kernel
theorem dX3_exchange_43 : decode cX3_exchange 43 = .ok (.aload_n 0, 1) := by decide +kernel
theorem dX3_exchange_44 : decode cX3_exchange 44 = .ok (.iload_n 1, 1) := by decide +kernel
theorem dX3_exchange_45 : decode cX3_exchange 45 = .ok (.iload_n 2, 1) := by decide +kernel
theorem dX3_exchange_46 : decode cX3_exchange 46 = .ok (.invokevirtual 138, 3) := by decide +kernel
theorem dX3_exchange_49 : decode cX3_exchange 49 = .ok (.aload_n 0, 1) := by decide +kernel
theorem dX3_exchange_50 : decode cX3_exchange 50 = .ok (.getfield 19, 3) := by decide +kernel
theorem dX3_exchange_53 : decode cX3_exchange 53 = .ok (.iconst 1, 1) := by decide +kernel
theorem dX3_exchange_54 : decode cX3_exchange 54 = .ok (.aload_n 0, 1) := by decide +kernel
theorem dX3_exchange_55 : decode cX3_exchange 55 = .ok (.getfield 10, 3) := by decide +kernel
theorem dX3_exchange_58 : decode cX3_exchange 58 = .ok (.getfield 77, 3) := by decide +kernel
theorem dX3_exchange_61 : decode cX3_exchange 61 = .ok (.invokevirtual 141, 3) := by decide +kernel
theorem dX3_exchange_64 : decode cX3_exchange 64 = .ok (.ireturn, 1) := by decide +kernel
theorem dX3_sign_0 : decode cX3_sign 0 = .ok (.aload_n 0, 1) := by decide +kernel
theorem dX3_sign_1 : decode cX3_sign 1 = .ok (.iload_n 1, 1) := by decide +kernel
theorem dX3_sign_2 : decode cX3_sign 2 = .ok (.invokevirtual 80, 3) := by decide +kernel
theorem dX3_sign_5 : decode cX3_sign 5 = .ok (.aload_n 0, 1) := by decide +kernel
theorem dX3_sign_6 : decode cX3_sign 6 = .ok (.iload_n 2, 1) := by decide +kernel
theorem dX3_sign_7 : decode cX3_sign 7 = .ok (.invokevirtual 80, 3) := by decide +kernel
theorem dX3_sign_10 : decode cX3_sign 10 = .ok (.aload_n 0, 1) := by decide +kernel
theorem dX3_sign_11 : decode cX3_sign 11 = .ok (.iload_n 3, 1) := by decide +kernel
theorem dX3_sign_12 : decode cX3_sign 12 = .ok (.invokevirtual 80, 3) := by decide +kernel
theorem dX3_sign_15 : decode cX3_sign 15 = .ok (.aload_n 0, 1) := by decide +kernel
theorem dX3_sign_16 : decode cX3_sign 16 = .ok (.iload_n 1, 1) := by decide +kernel
theorem dX3_sign_17 : decode cX3_sign 17 = .ok (.iload_n 2, 1) := by decide +kernel
theorem dX3_sign_18 : decode cX3_sign 18 = .ok (.iload_n 3, 1) := by decide +kernel
theorem dX3_sign_19 : decode cX3_sign 19 = .ok (.invokevirtual 89, 3) := by decide +kernel
theorem dX3_sign_22 : decode cX3_sign 22 = .ok (.ireturn, 1) := by decide +kernel
theorem dX3_triple_0 : decode cX3_triple 0 = .ok (.aload_n 0, 1) := by decide +kernel
theorem dX3_triple_1 : decode cX3_triple 1 = .ok (.iload_n 1, 1) := by decide +kernel
theorem dX3_triple_2 : decode cX3_triple 2 = .ok (.invokevirtual 145, 3) := by decide +kernel
theorem dX3_triple_5 : decode cX3_triple 5 = .ok (.iload_n 2, 1) := by decide +kernel
theorem dX3_triple_6 : decode cX3_triple 6 = .ok (.tableswitch 92 0 6 #[42, 42, 42, 52, 62, 72, 82], 42) := by decide +kernel
theorem dX3_triple_48 : decode cX3_triple 48 = .ok (.aload_n 0, 1) := by decide +kernel
theorem dX3_triple_49 : decode cX3_triple 49 = .ok (.getfield 10, 3) := by decide +kernel
theorem dX3_triple_52 : decode cX3_triple 52 = .ok (.iload_n 1, 1) := by decide +kernel
theorem dX3_triple_53 : decode cX3_triple 53 = .ok (.iload_n 2, 1) := by decide +kernel
theorem dX3_triple_54 : decode cX3_triple 54 = .ok (.invokevirtual 148, 3) := by decide +kernel
theorem dX3_triple_57 : decode cX3_triple 57 = .ok (.ireturn, 1) := by decide +kernel
theorem dX3_triple_58 : decode cX3_triple 58 = .ok (.aload_n 0, 1) := by decide +kernel
theorem dX3_triple_59 : decode cX3_triple 59 = .ok (.getfield 19, 3) := by decide +kernel
theorem dX3_triple_62 : decode cX3_triple 62 = .ok (.getfield 129, 3) := by decide +kernel
theorem dX3_triple_65 : decode cX3_triple 65 = .ok (.iload_n 1, 1) := by decide +kernel
theorem dX3_triple_66 : decode cX3_triple 66 = .ok (.iaload, 1) := by decide +kernel
theorem dX3_triple_67 : decode cX3_triple 67 = .ok (.ireturn, 1) := by decide +kernel
theorem dX3_triple_68 : decode cX3_triple 68 = .ok (.aload_n 0, 1) := by decide +kernel
theorem dX3_triple_69 : decode cX3_triple 69 = .ok (.getfield 19, 3) := by decide +kernel
theorem dX3_triple_72 : decode cX3_triple 72 = .ok (.getfield 100, 3) := by decide +kernel
theorem dX3_triple_75 : decode cX3_triple 75 = .ok (.iload_n 1, 1) := by decide +kernel
theorem dX3_triple_76 : decode cX3_triple 76 = .ok (.iaload, 1) := by decide +kernel
theorem dX3_triple_77 : decode cX3_triple 77 = .ok (.ireturn, 1) := by decide +kernel
theorem dX3_triple_78 : decode cX3_triple 78 = .ok (.aload_n 0, 1) := by decide +kernel
theorem dX3_triple_79 : decode cX3_triple 79 = .ok (.getfield 19, 3) := by decide +kernel
theorem dX3_triple_82 : decode cX3_triple 82 = .ok (.getfield 151, 3) := by decide +kernel
theorem dX3_triple_85 : decode cX3_triple 85 = .ok (.iload_n 1, 1) := by decide +kernel
theorem dX3_triple_86 : decode cX3_triple 86 = .ok (.iaload, 1) := by decide +kernel
theorem dX3_triple_87 : decode cX3_triple 87 = .ok (.ireturn, 1) := by decide +kernel
theorem dX3_triple_88 : decode cX3_triple 88 = .ok (.aload_n 0, 1) := by decide +kernel
theorem dX3_triple_89 : decode cX3_triple 89 = .ok (.getfield 19, 3) := by decide +kernel
theorem dX3_triple_92 : decode cX3_triple 92 = .ok (.getfield 154, 3) := by decide +kernel
theorem dX3_triple_95 : decode cX3_triple 95 = .ok (.iload_n 1, 1) := by decide +kernel
theorem dX3_triple_96 : decode cX3_triple 96 = .ok (.iaload, 1) := by decide +kernel
theorem dX3_triple_97 : decode cX3_triple 97 = .ok (.ireturn, 1) := by decide +kernel
theorem dX3_triple_98 : decode cX3_triple 98 = .ok (.new 67, 3) := by decide +kernel
theorem dX3_triple_101 : decode cX3_triple 101 = .ok (.dup, 1) := by decide +kernel
theorem dX3_triple_102 : decode cX3_triple 102 = .ok (.ldc 157, 2) := by decide +kernel
theorem dX3_triple_104 : decode cX3_triple 104 = .ok (.invokespecial 71, 3) := by decide +kernel
theorem dX3_triple_107 : decode cX3_triple 107 = .ok (.athrow, 1) := by decide +kernel
theorem dX3_reasons_0 : decode cX3_reasons 0 = .ok (.aload_n 0, 1) := by decide +kernel
theorem dX3_reasons_1 : decode cX3_reasons 1 = .ok (.iload_n 1, 1) := by decide +kernel
theorem dX3_reasons_2 : decode cX3_reasons 2 = .ok (.invokevirtual 145, 3) := by decide +kernel
theorem dX3_reasons_5 : decode cX3_reasons 5 = .ok (.aload_n 0, 1) := by decide +kernel
theorem dX3_reasons_6 : decode cX3_reasons 6 = .ok (.getfield 19, 3) := by decide +kernel
theorem dX3_reasons_9 : decode cX3_reasons 9 = .ok (.getfield 159, 3) := by decide +kernel
theorem dX3_reasons_12 : decode cX3_reasons 12 = .ok (.iload_n 1, 1) := by decide +kernel
theorem dX3_reasons_13 : decode cX3_reasons 13 = .ok (.laload, 1) := by decide +kernel
theorem dX3_reasons_14 : decode cX3_reasons 14 = .ok (.lreturn, 1) := by decide +kernel
theorem dX3_count_0 : decode cX3_count 0 = .ok (.iload_n 1, 1) := by decide +kernel
theorem dX3_count_1 : decode cX3_count 1 = .ok (.tableswitch 161 0 9 #[55, 63, 71, 87, 103, 119, 127, 132, 137, 145], 55) := by decide +kernel
theorem dX3_count_56 : decode cX3_count 56 = .ok (.aload_n 0, 1) := by decide +kernel
theorem dX3_count_57 : decode cX3_count 57 = .ok (.getfield 10, 3) := by decide +kernel
theorem dX3_count_60 : decode cX3_count 60 = .ok (.getfield 163, 3) := by decide +kernel
theorem dX3_count_63 : decode cX3_count 63 = .ok (.ireturn, 1) := by decide +kernel
theorem dX3_count_64 : decode cX3_count 64 = .ok (.aload_n 0, 1) := by decide +kernel
theorem dX3_count_65 : decode cX3_count 65 = .ok (.getfield 10, 3) := by decide +kernel
theorem dX3_count_68 : decode cX3_count 68 = .ok (.getfield 77, 3) := by decide +kernel
theorem dX3_count_71 : decode cX3_count 71 = .ok (.ireturn, 1) := by decide +kernel
theorem dX3_count_72 : decode cX3_count 72 = .ok (.aload_n 0, 1) := by decide +kernel
theorem dX3_count_73 : decode cX3_count 73 = .ok (.getfield 19, 3) := by decide +kernel
theorem dX3_count_76 : decode cX3_count 76 = .ok (.iconst 1, 1) := by decide +kernel
theorem dX3_count_77 : decode cX3_count 77 = .ok (.aload_n 0, 1) := by decide +kernel
theorem dX3_count_78 : decode cX3_count 78 = .ok (.getfield 10, 3) := by decide +kernel
theorem dX3_count_81 : decode cX3_count 81 = .ok (.getfield 77, 3) := by decide +kernel
theorem dX3_count_84 : decode cX3_count 84 = .ok (.invokevirtual 141, 3) := by decide +kernel
theorem dX3_count_87 : decode cX3_count 87 = .ok (.ireturn, 1) := by decide +kernel
theorem dX3_count_88 : decode cX3_count 88 = .ok (.aload_n 0, 1) := by decide +kernel
theorem dX3_count_89 : decode cX3_count 89 = .ok (.getfield 19, 3) := by decide +kernel
theorem dX3_count_92 : decode cX3_count 92 = .ok (.iconst 2, 1) := by decide +kernel
theorem dX3_count_93 : decode cX3_count 93 = .ok (.aload_n 0, 1) := by decide +kernel
theorem dX3_count_94 : decode cX3_count 94 = .ok (.getfield 10, 3) := by decide +kernel
theorem dX3_count_97 : decode cX3_count 97 = .ok (.getfield 77, 3) := by decide +kernel
theorem dX3_count_100 : decode cX3_count 100 = .ok (.invokevirtual 141, 3) := by decide +kernel
theorem dX3_count_103 : decode cX3_count 103 = .ok (.ireturn, 1) := by decide +kernel
theorem dX3_count_104 : decode cX3_count 104 = .ok (.aload_n 0, 1) := by decide +kernel
theorem dX3_count_105 : decode cX3_count 105 = .ok (.getfield 19, 3) := by decide +kernel
theorem dX3_count_108 : decode cX3_count 108 = .ok (.iconst 0, 1) := by decide +kernel
theorem dX3_count_109 : decode cX3_count 109 = .ok (.aload_n 0, 1) := by decide +kernel
theorem dX3_count_110 : decode cX3_count 110 = .ok (.getfield 10, 3) := by decide +kernel
theorem dX3_count_113 : decode cX3_count 113 = .ok (.getfield 77, 3) := by decide +kernel
theorem dX3_count_116 : decode cX3_count 116 = .ok (.invokevirtual 141, 3) := by decide +kernel
theorem dX3_count_119 : decode cX3_count 119 = .ok (.ireturn, 1) := by decide +kernel
theorem dX3_count_120 : decode cX3_count 120 = .ok (.aload_n 0, 1) := by decide +kernel
theorem dX3_count_121 : decode cX3_count 121 = .ok (.getfield 10, 3) := by decide +kernel
theorem dX3_count_124 : decode cX3_count 124 = .ok (.getfield 166, 3) := by decide +kernel
theorem dX3_count_127 : decode cX3_count 127 = .ok (.ireturn, 1) := by decide +kernel
theorem dX3_count_128 : decode cX3_count 128 = .ok (.aload_n 0, 1) := by decide +kernel
theorem dX3_count_129 : decode cX3_count 129 = .ok (.invokevirtual 169, 3) := by decide +kernel
theorem dX3_count_132 : decode cX3_count 132 = .ok (.ireturn, 1) := by decide +kernel
theorem dX3_count_133 : decode cX3_count 133 = .ok (.aload_n 0, 1) := by decide +kernel
theorem dX3_count_134 : decode cX3_count 134 = .ok (.invokevirtual 172, 3) := by decide +kernel
theorem dX3_count_137 : decode cX3_count 137 = .ok (.ireturn, 1) := by decide +kernel
theorem dX3_count_138 : decode cX3_count 138 = .ok (.aload_n 0, 1) := by decide +kernel
theorem dX3_count_139 : decode cX3_count 139 = .ok (.getfield 19, 3) := by decide +kernel
theorem dX3_count_142 : decode cX3_count 142 = .ok (.getfield 175, 3) := by decide +kernel
theorem dX3_count_145 : decode cX3_count 145 = .ok (.ireturn, 1) := by decide +kernel
theorem dX3_count_146 : decode cX3_count 146 = .ok (.aload_n 0, 1) := by decide +kernel
theorem dX3_count_147 : decode cX3_count 147 = .ok (.getfield 19, 3) := by decide +kernel
theorem dX3_count_150 : decode cX3_count 150 = .ok (.getfield 111, 3) := by decide +kernel
theorem dX3_count_153 : decode cX3_count 153 = .ok (.ifCond .eq 7, 3) := by decide +kernel
theorem dX3_count_156 : decode cX3_count 156 = .ok (.iconst 1, 1) := by decide +kernel
theorem dX3_count_157 : decode cX3_count 157 = .ok (.goto 4, 3) := by decide +kernel
theorem dX3_count_160 : decode cX3_count 160 = .ok (.iconst 0, 1) := by decide +kernel
theorem dX3_count_161 : decode cX3_count 161 = .ok (.ireturn, 1) := by decide +kernel
theorem dX3_count_162 : decode cX3_count 162 = .ok (.new 67, 3) := by decide +kernel
theorem dX3_count_165 : decode cX3_count 165 = .ok (.dup, 1) := by decide +kernel
theorem dX3_count_166 : decode cX3_count 166 = .ok (.ldc 157, 2) := by decide +kernel
theorem dX3_count_168 : decode cX3_count 168 = .ok (.invokespecial 71, 3) := by decide +kernel
theorem dX3_count_171 : decode cX3_count 171 = .ok (.athrow, 1) := by decide +kernel
theorem dX3_relation_0 : decode cX3_relation 0 = .ok (.aload_n 0, 1) := by decide +kernel
theorem dX3_relation_1 : decode cX3_relation 1 = .ok (.iload_n 1, 1) := by decide +kernel
theorem dX3_relation_2 : decode cX3_relation 2 = .ok (.invokevirtual 178, 3) := by decide +kernel
theorem dX3_relation_5 : decode cX3_relation 5 = .ok (.iload_n 2, 1) := by decide +kernel
theorem dX3_relation_6 : decode cX3_relation 6 = .ok (.tableswitch 84 0 6 #[42, 42, 42, 42, 42, 52, 68], 42) := by decide +kernel
theorem dX3_relation_48 : decode cX3_relation 48 = .ok (.aload_n 0, 1) := by decide +kernel
theorem dX3_relation_49 : decode cX3_relation 49 = .ok (.getfield 10, 3) := by decide +kernel
theorem dX3_relation_52 : decode cX3_relation 52 = .ok (.iload_n 1, 1) := by decide +kernel
theorem dX3_relation_53 : decode cX3_relation 53 = .ok (.iload_n 2, 1) := by decide +kernel
theorem dX3_relation_54 : decode cX3_relation 54 = .ok (.invokevirtual 181, 3) := by decide +kernel
theorem dX3_relation_57 : decode cX3_relation 57 = .ok (.ireturn, 1) := by decide +kernel
theorem dX3_relation_58 : decode cX3_relation 58 = .ok (.aload_n 0, 1) := by decide +kernel
theorem dX3_relation_59 : decode cX3_relation 59 = .ok (.getfield 10, 3) := by decide +kernel
theorem dX3_relation_62 : decode cX3_relation 62 = .ok (.iload_n 1, 1) := by decide +kernel
theorem dX3_relation_63 : decode cX3_relation 63 = .ok (.aload_n 0, 1) := by decide +kernel
theorem dX3_relation_64 : decode cX3_relation 64 = .ok (.getfield 19, 3) := by decide +kernel
theorem dX3_relation_67 : decode cX3_relation 67 = .ok (.getfield 129, 3) := by decide +kernel
theorem dX3_relation_70 : decode cX3_relation 70 = .ok (.invokevirtual 184, 3) := by decide +kernel
theorem dX3_relation_73 : decode cX3_relation 73 = .ok (.ireturn, 1) := by decide +kernel
theorem dX3_relation_74 : decode cX3_relation 74 = .ok (.aload_n 0, 1) := by decide +kernel
theorem dX3_relation_75 : decode cX3_relation 75 = .ok (.getfield 10, 3) := by decide +kernel
theorem dX3_relation_78 : decode cX3_relation 78 = .ok (.iload_n 1, 1) := by decide +kernel
theorem dX3_relation_79 : decode cX3_relation 79 = .ok (.aload_n 0, 1) := by decide +kernel
theorem dX3_relation_80 : decode cX3_relation 80 = .ok (.getfield 19, 3) := by decide +kernel
theorem dX3_relation_83 : decode cX3_relation 83 = .ok (.getfield 129, 3) := by decide +kernel
theorem dX3_relation_86 : decode cX3_relation 86 = .ok (.invokevirtual 188, 3) := by decide +kernel
theorem dX3_relation_89 : decode cX3_relation 89 = .ok (.ireturn, 1) := by decide +kernel
theorem dX3_relation_90 : decode cX3_relation 90 = .ok (.new 67, 3) := by decide +kernel
theorem dX3_relation_93 : decode cX3_relation 93 = .ok (.dup, 1) := by decide +kernel
theorem dX3_relation_94 : decode cX3_relation 94 = .ok (.ldc 157, 2) := by decide +kernel
theorem dX3_relation_96 : decode cX3_relation 96 = .ok (.invokespecial 71, 3) := by decide +kernel
theorem dX3_relation_99 : decode cX3_relation 99 = .ok (.athrow, 1) := by decide +kernel
theorem dX3_behind_0 : decode cX3_behind 0 = .ok (.aload_n 0, 1) := by decide +kernel
theorem dX3_behind_1 : decode cX3_behind 1 = .ok (.iload_n 1, 1) := by decide +kernel
theorem dX3_behind_2 : decode cX3_behind 2 = .ok (.invokevirtual 178, 3) := by decide +kernel
theorem dX3_behind_5 : decode cX3_behind 5 = .ok (.aload_n 0, 1) := by decide +kernel
theorem dX3_behind_6 : decode cX3_behind 6 = .ok (.iload_n 1, 1) := by decide +kernel
theorem dX3_behind_7 : decode cX3_behind 7 = .ok (.invokevirtual 191, 3) := by decide +kernel
theorem dX3_behind_10 : decode cX3_behind 10 = .ok (.lreturn, 1) := by decide +kernel
theorem dX3_completions_0 : decode cX3_completions 0 = .ok (.aload_n 0, 1) := by decide +kernel
theorem dX3_completions_1 : decode cX3_completions 1 = .ok (.getfield 19, 3) := by decide +kernel
theorem dX3_completions_4 : decode cX3_completions 4 = .ok (.iconst 0, 1) := by decide +kernel
theorem dX3_completions_5 : decode cX3_completions 5 = .ok (.aload_n 0, 1) := by decide +kernel
theorem dX3_completions_6 : decode cX3_completions 6 = .ok (.getfield 10, 3) := by decide +kernel
theorem dX3_completions_9 : decode cX3_completions 9 = .ok (.getfield 77, 3) := by decide +kernel
theorem dX3_completions_12 : decode cX3_completions 12 = .ok (.invokevirtual 141, 3) := by decide +kernel
theorem dX3_completions_15 : decode cX3_completions 15 = .ok (.istore_n 1, 1) := by decide +kernel
theorem dX3_completions_16 : decode cX3_completions 16 = .ok (.iload_n 1, 1) := by decide +kernel
theorem dX3_completions_17 : decode cX3_completions 17 = .ok (.bipush 10, 2) := by decide +kernel
theorem dX3_completions_19 : decode cX3_completions 19 = .ok (.if_icmp .le 13, 3) := by decide +kernel
theorem dX3_completions_22 : decode cX3_completions 22 = .ok (.new 103, 3) := by decide +kernel
theorem dX3_completions_25 : decode cX3_completions 25 = .ok (.dup, 1) := by decide +kernel
theorem dX3_completions_26 : decode cX3_completions 26 = .ok (.ldc 195, 2) := by decide +kernel
theorem dX3_completions_28 : decode cX3_completions 28 = .ok (.invokespecial 107, 3) := by decide +kernel
theorem dX3_completions_31 : decode cX3_completions 31 = .ok (.athrow, 1) := by decide +kernel
theorem dX3_completions_32 : decode cX3_completions 32 = .ok (.aload_n 0, 1) := by decide +kernel
theorem dX3_completions_33 : decode cX3_completions 33 = .ok (.invokevirtual 172, 3) := by decide +kernel
theorem dX3_completions_36 : decode cX3_completions 36 = .ok (.ifCond .le 5, 3) := by decide +kernel
theorem dX3_completions_39 : decode cX3_completions 39 = .ok (.iconst 0, 1) := by decide +kernel
theorem dX3_completions_40 : decode cX3_completions 40 = .ok (.ireturn, 1) := by decide +kernel
theorem dX3_completions_41 : decode cX3_completions 41 = .ok (.iconst 0, 1) := by decide +kernel
theorem dX3_completions_42 : decode cX3_completions 42 = .ok (.istore_n 2, 1) := by decide +kernel
theorem dX3_completions_43 : decode cX3_completions 43 = .ok (.iconst 0, 1) := by decide +kernel
theorem dX3_completions_44 : decode cX3_completions 44 = .ok (.istore_n 3, 1) := by decide +kernel
theorem dX3_completions_45 : decode cX3_completions 45 = .ok (.iload_n 3, 1) := by decide +kernel
theorem dX3_completions_46 : decode cX3_completions 46 = .ok (.aload_n 0, 1) := by decide +kernel
theorem dX3_completions_47 : decode cX3_completions 47 = .ok (.getfield 10, 3) := by decide +kernel
theorem dX3_completions_50 : decode cX3_completions 50 = .ok (.getfield 77, 3) := by decide +kernel
theorem dX3_completions_53 : decode cX3_completions 53 = .ok (.if_icmp .ge 37, 3) := by decide +kernel
theorem dX3_completions_56 : decode cX3_completions 56 = .ok (.iload_n 2, 1) := by decide +kernel
theorem dX3_completions_57 : decode cX3_completions 57 = .ok (.bipush 10, 2) := by decide +kernel
theorem dX3_completions_59 : decode cX3_completions 59 = .ok (.if_icmp .ge 31, 3) := by decide +kernel
theorem dX3_completions_62 : decode cX3_completions 62 = .ok (.aload_n 0, 1) := by decide +kernel
theorem dX3_completions_63 : decode cX3_completions 63 = .ok (.getfield 19, 3) := by decide +kernel
theorem dX3_completions_66 : decode cX3_completions 66 = .ok (.getfield 100, 3) := by decide +kernel
theorem dX3_completions_69 : decode cX3_completions 69 = .ok (.iload_n 3, 1) := by decide +kernel
theorem dX3_completions_70 : decode cX3_completions 70 = .ok (.iaload, 1) := by decide +kernel
theorem dX3_completions_71 : decode cX3_completions 71 = .ok (.ifCond .ne 13, 3) := by decide +kernel
theorem dX3_completions_74 : decode cX3_completions 74 = .ok (.aload_n 0, 1) := by decide +kernel
theorem dX3_completions_75 : decode cX3_completions 75 = .ok (.getfield 42, 3) := by decide +kernel
theorem dX3_completions_78 : decode cX3_completions 78 = .ok (.iload_n 2, 1) := by decide +kernel
theorem dX3_completions_79 : decode cX3_completions 79 = .ok (.iload_n 3, 1) := by decide +kernel
theorem dX3_completions_80 : decode cX3_completions 80 = .ok (.iastore, 1) := by decide +kernel
theorem dX3_completions_81 : decode cX3_completions 81 = .ok (.iinc 2 1, 3) := by decide +kernel
theorem dX3_completions_84 : decode cX3_completions 84 = .ok (.iinc 3 1, 3) := by decide +kernel
theorem dX3_completions_87 : decode cX3_completions 87 = .ok (.goto (-42), 3) := by decide +kernel
theorem dX3_completions_90 : decode cX3_completions 90 = .ok (.iconst 0, 1) := by decide +kernel
theorem dX3_completions_91 : decode cX3_completions 91 = .ok (.iload_n 2, 1) := by decide +kernel
theorem dX3_completions_92 : decode cX3_completions 92 = .ok (.aload_n 0, 1) := by decide +kernel
theorem dX3_completions_93 : decode cX3_completions 93 = .ok (.getfield 42, 3) := by decide +kernel
theorem dX3_completions_96 : decode cX3_completions 96 = .ok (.aload_n 0, 1) := by decide +kernel
theorem dX3_completions_97 : decode cX3_completions 97 = .ok (.getfield 19, 3) := by decide +kernel
theorem dX3_completions_100 : decode cX3_completions 100 = .ok (.getfield 129, 3) := by decide +kernel
theorem dX3_completions_103 : decode cX3_completions 103 = .ok (.aload_n 0, 1) := by decide +kernel
theorem dX3_completions_104 : decode cX3_completions 104 = .ok (.getfield 10, 3) := by decide +kernel
theorem dX3_completions_107 : decode cX3_completions 107 = .ok (.invokestatic 197, 3) := by decide +kernel
theorem dX3_completions_110 : decode cX3_completions 110 = .ok (.ireturn, 1) := by decide +kernel
theorem dX3_cocircuit_0 : decode cX3_cocircuit 0 = .ok (.aload_n 0, 1) := by decide +kernel
theorem dX3_cocircuit_1 : decode cX3_cocircuit 1 = .ok (.iload_n 1, 1) := by decide +kernel
theorem dX3_cocircuit_2 : decode cX3_cocircuit 2 = .ok (.invokevirtual 80, 3) := by decide +kernel
theorem dX3_cocircuit_5 : decode cX3_cocircuit 5 = .ok (.aload_n 0, 1) := by decide +kernel
theorem dX3_cocircuit_6 : decode cX3_cocircuit 6 = .ok (.iload_n 2, 1) := by decide +kernel
theorem dX3_cocircuit_7 : decode cX3_cocircuit 7 = .ok (.invokevirtual 80, 3) := by decide +kernel
theorem dX3_cocircuit_10 : decode cX3_cocircuit 10 = .ok (.iload_n 1, 1) := by decide +kernel
theorem dX3_cocircuit_11 : decode cX3_cocircuit 11 = .ok (.iload_n 2, 1) := by decide +kernel
theorem dX3_cocircuit_12 : decode cX3_cocircuit 12 = .ok (.if_icmp .ne 13, 3) := by decide +kernel
theorem dX3_cocircuit_15 : decode cX3_cocircuit 15 = .ok (.new 67, 3) := by decide +kernel
theorem dX3_cocircuit_18 : decode cX3_cocircuit 18 = .ok (.dup, 1) := by decide +kernel
theorem dX3_cocircuit_19 : decode cX3_cocircuit 19 = .ok (.ldc 132, 2) := by decide +kernel
theorem dX3_cocircuit_21 : decode cX3_cocircuit 21 = .ok (.invokespecial 71, 3) := by decide +kernel
theorem dX3_cocircuit_24 : decode cX3_cocircuit 24 = .ok (.athrow, 1) := by decide +kernel
theorem dX3_cocircuit_25 : decode cX3_cocircuit 25 = .ok (.iconst 0, 1) := by decide +kernel
theorem dX3_cocircuit_26 : decode cX3_cocircuit 26 = .ok (.istore_n 3, 1) := by decide +kernel
theorem dX3_cocircuit_27 : decode cX3_cocircuit 27 = .ok (.iconst 1, 1) := by decide +kernel
theorem dX3_cocircuit_28 : decode cX3_cocircuit 28 = .ok (.istore 4, 2) := by decide +kernel
theorem dX3_cocircuit_30 : decode cX3_cocircuit 30 = .ok (.iconst 0, 1) := by decide +kernel
theorem dX3_cocircuit_31 : decode cX3_cocircuit 31 = .ok (.istore 5, 2) := by decide +kernel
theorem dX3_cocircuit_33 : decode cX3_cocircuit 33 = .ok (.iload 5, 2) := by decide +kernel
theorem dX3_cocircuit_35 : decode cX3_cocircuit 35 = .ok (.aload_n 0, 1) := by decide +kernel
theorem dX3_cocircuit_36 : decode cX3_cocircuit 36 = .ok (.getfield 10, 3) := by decide +kernel
theorem dX3_cocircuit_39 : decode cX3_cocircuit 39 = .ok (.getfield 163, 3) := by decide +kernel
theorem dX3_cocircuit_42 : decode cX3_cocircuit 42 = .ok (.if_icmp .ge 69, 3) := by decide +kernel
theorem dX3_cocircuit_45 : decode cX3_cocircuit 45 = .ok (.aload_n 0, 1) := by decide +kernel
theorem dX3_cocircuit_46 : decode cX3_cocircuit 46 = .ok (.iload_n 1, 1) := by decide +kernel
theorem dX3_cocircuit_47 : decode cX3_cocircuit 47 = .ok (.iload_n 2, 1) := by decide +kernel
theorem dX3_cocircuit_48 : decode cX3_cocircuit 48 = .ok (.iload 5, 2) := by decide +kernel
theorem dX3_cocircuit_50 : decode cX3_cocircuit 50 = .ok (.invokevirtual 89, 3) := by decide +kernel
theorem dX3_cocircuit_53 : decode cX3_cocircuit 53 = .ok (.istore 6, 2) := by decide +kernel
theorem dX3_cocircuit_55 : decode cX3_cocircuit 55 = .ok (.iload 6, 2) := by decide +kernel
theorem dX3_cocircuit_57 : decode cX3_cocircuit 57 = .ok (.bipush (-100), 2) := by decide +kernel
theorem dX3_cocircuit_59 : decode cX3_cocircuit 59 = .ok (.if_icmp .ne 13, 3) := by decide +kernel
theorem dX3_cocircuit_62 : decode cX3_cocircuit 62 = .ok (.new 103, 3) := by decide +kernel
theorem dX3_cocircuit_65 : decode cX3_cocircuit 65 = .ok (.dup, 1) := by decide +kernel
theorem dX3_cocircuit_66 : decode cX3_cocircuit 66 = .ok (.ldc 201, 2) := by decide +kernel
theorem dX3_cocircuit_68 : decode cX3_cocircuit 68 = .ok (.invokespecial 107, 3) := by decide +kernel
theorem dX3_cocircuit_71 : decode cX3_cocircuit 71 = .ok (.athrow, 1) := by decide +kernel
theorem dX3_cocircuit_72 : decode cX3_cocircuit 72 = .ok (.iload 6, 2) := by decide +kernel
theorem dX3_cocircuit_74 : decode cX3_cocircuit 74 = .ok (.iconst 1, 1) := by decide +kernel
theorem dX3_cocircuit_75 : decode cX3_cocircuit 75 = .ok (.if_icmp .ne 11, 3) := by decide +kernel
theorem dX3_cocircuit_78 : decode cX3_cocircuit 78 = .ok (.iload_n 3, 1) := by decide +kernel
theorem dX3_cocircuit_79 : decode cX3_cocircuit 79 = .ok (.iload 4, 2) := by decide +kernel
theorem dX3_cocircuit_81 : decode cX3_cocircuit 81 = .ok (.iadd, 1) := by decide +kernel
theorem dX3_cocircuit_82 : decode cX3_cocircuit 82 = .ok (.istore_n 3, 1) := by decide +kernel
theorem dX3_cocircuit_83 : decode cX3_cocircuit 83 = .ok (.goto 16, 3) := by decide +kernel
theorem dX3_cocircuit_86 : decode cX3_cocircuit 86 = .ok (.iload 6, 2) := by decide +kernel
theorem dX3_cocircuit_88 : decode cX3_cocircuit 88 = .ok (.iconst (-1), 1) := by decide +kernel
theorem dX3_cocircuit_89 : decode cX3_cocircuit 89 = .ok (.if_icmp .ne 10, 3) := by decide +kernel
theorem dX3_cocircuit_92 : decode cX3_cocircuit 92 = .ok (.iload_n 3, 1) := by decide +kernel
theorem dX3_cocircuit_93 : decode cX3_cocircuit 93 = .ok (.iconst 2, 1) := by decide +kernel
theorem dX3_cocircuit_94 : decode cX3_cocircuit 94 = .ok (.iload 4, 2) := by decide +kernel
theorem dX3_cocircuit_96 : decode cX3_cocircuit 96 = .ok (.imul, 1) := by decide +kernel
theorem dX3_cocircuit_97 : decode cX3_cocircuit 97 = .ok (.iadd, 1) := by decide +kernel
theorem dX3_cocircuit_98 : decode cX3_cocircuit 98 = .ok (.istore_n 3, 1) := by decide +kernel
theorem dX3_cocircuit_99 : decode cX3_cocircuit 99 = .ok (.iload 4, 2) := by decide +kernel
theorem dX3_cocircuit_101 : decode cX3_cocircuit 101 = .ok (.iconst 4, 1) := by decide +kernel
theorem dX3_cocircuit_102 : decode cX3_cocircuit 102 = .ok (.imul, 1) := by decide +kernel
theorem dX3_cocircuit_103 : decode cX3_cocircuit 103 = .ok (.istore 4, 2) := by decide +kernel
theorem dX3_cocircuit_105 : decode cX3_cocircuit 105 = .ok (.iinc 5 1, 3) := by decide +kernel
theorem dX3_cocircuit_108 : decode cX3_cocircuit 108 = .ok (.goto (-75), 3) := by decide +kernel
theorem dX3_cocircuit_111 : decode cX3_cocircuit 111 = .ok (.iload_n 3, 1) := by decide +kernel
theorem dX3_cocircuit_112 : decode cX3_cocircuit 112 = .ok (.ireturn, 1) := by decide +kernel
theorem dX3_isExtreme_0 : decode cX3_isExtreme 0 = .ok (.aload_n 0, 1) := by decide +kernel
theorem dX3_isExtreme_1 : decode cX3_isExtreme 1 = .ok (.iload_n 1, 1) := by decide +kernel
theorem dX3_isExtreme_2 : decode cX3_isExtreme 2 = .ok (.invokevirtual 80, 3) := by decide +kernel
theorem dX3_isExtreme_5 : decode cX3_isExtreme 5 = .ok (.iconst 0, 1) := by decide +kernel
theorem dX3_isExtreme_6 : decode cX3_isExtreme 6 = .ok (.istore_n 2, 1) := by decide +kernel
theorem dX3_isExtreme_7 : decode cX3_isExtreme 7 = .ok (.iload_n 2, 1) := by decide +kernel
theorem dX3_isExtreme_8 : decode cX3_isExtreme 8 = .ok (.aload_n 0, 1) := by decide +kernel
theorem dX3_isExtreme_9 : decode cX3_isExtreme 9 = .ok (.getfield 10, 3) := by decide +kernel
theorem dX3_isExtreme_12 : decode cX3_isExtreme 12 = .ok (.getfield 163, 3) := by decide +kernel
theorem dX3_isExtreme_15 : decode cX3_isExtreme 15 = .ok (.if_icmp .ge 25, 3) := by decide +kernel
theorem dX3_isExtreme_18 : decode cX3_isExtreme 18 = .ok (.iload_n 2, 1) := by decide +kernel
theorem dX3_isExtreme_19 : decode cX3_isExtreme 19 = .ok (.iload_n 1, 1) := by decide +kernel
theorem dX3_isExtreme_20 : decode cX3_isExtreme 20 = .ok (.if_icmp .eq 14, 3) := by decide +kernel
theorem dX3_isExtreme_23 : decode cX3_isExtreme 23 = .ok (.aload_n 0, 1) := by decide +kernel
theorem dX3_isExtreme_24 : decode cX3_isExtreme 24 = .ok (.iload_n 1, 1) := by decide +kernel
theorem dX3_isExtreme_25 : decode cX3_isExtreme 25 = .ok (.iload_n 2, 1) := by decide +kernel
theorem dX3_isExtreme_26 : decode cX3_isExtreme 26 = .ok (.invokevirtual 203, 3) := by decide +kernel
theorem dX3_isExtreme_29 : decode cX3_isExtreme 29 = .ok (.ifCond .eq 5, 3) := by decide +kernel
theorem dX3_isExtreme_32 : decode cX3_isExtreme 32 = .ok (.iconst 1, 1) := by decide +kernel
theorem dX3_isExtreme_33 : decode cX3_isExtreme 33 = .ok (.ireturn, 1) := by decide +kernel
theorem dX3_isExtreme_34 : decode cX3_isExtreme 34 = .ok (.iinc 2 1, 3) := by decide +kernel
theorem dX3_isExtreme_37 : decode cX3_isExtreme 37 = .ok (.goto (-30), 3) := by decide +kernel
theorem dX3_isExtreme_40 : decode cX3_isExtreme 40 = .ok (.iconst 0, 1) := by decide +kernel
theorem dX3_isExtreme_41 : decode cX3_isExtreme 41 = .ok (.ireturn, 1) := by decide +kernel
theorem dX3_lines_0 : decode cX3_lines 0 = .ok (.aload_n 0, 1) := by decide +kernel
theorem dX3_lines_1 : decode cX3_lines 1 = .ok (.getfield 19, 3) := by decide +kernel
theorem dX3_lines_4 : decode cX3_lines 4 = .ok (.iconst 0, 1) := by decide +kernel
theorem dX3_lines_5 : decode cX3_lines 5 = .ok (.aload_n 0, 1) := by decide +kernel
theorem dX3_lines_6 : decode cX3_lines 6 = .ok (.getfield 10, 3) := by decide +kernel
theorem dX3_lines_9 : decode cX3_lines 9 = .ok (.getfield 77, 3) := by decide +kernel
theorem dX3_lines_12 : decode cX3_lines 12 = .ok (.invokevirtual 141, 3) := by decide +kernel
theorem dX3_lines_15 : decode cX3_lines 15 = .ok (.ifCond .le 13, 3) := by decide +kernel
theorem dX3_lines_18 : decode cX3_lines 18 = .ok (.new 103, 3) := by decide +kernel
theorem dX3_lines_21 : decode cX3_lines 21 = .ok (.dup, 1) := by decide +kernel
theorem dX3_lines_22 : decode cX3_lines 22 = .ok (.ldc 206, 2) := by decide +kernel
theorem dX3_lines_24 : decode cX3_lines 24 = .ok (.invokespecial 107, 3) := by decide +kernel
theorem dX3_lines_27 : decode cX3_lines 27 = .ok (.athrow, 1) := by decide +kernel
theorem dX3_lines_28 : decode cX3_lines 28 = .ok (.iconst 0, 1) := by decide +kernel
theorem dX3_lines_29 : decode cX3_lines 29 = .ok (.istore_n 1, 1) := by decide +kernel
theorem dX3_lines_30 : decode cX3_lines 30 = .ok (.iconst 0, 1) := by decide +kernel
theorem dX3_lines_31 : decode cX3_lines 31 = .ok (.istore_n 2, 1) := by decide +kernel
theorem dX3_lines_32 : decode cX3_lines 32 = .ok (.iload_n 2, 1) := by decide +kernel
theorem dX3_lines_33 : decode cX3_lines 33 = .ok (.aload_n 0, 1) := by decide +kernel
theorem dX3_lines_34 : decode cX3_lines 34 = .ok (.getfield 10, 3) := by decide +kernel
theorem dX3_lines_37 : decode cX3_lines 37 = .ok (.getfield 163, 3) := by decide +kernel
theorem dX3_lines_40 : decode cX3_lines 40 = .ok (.if_icmp .ge 65, 3) := by decide +kernel
theorem dX3_lines_43 : decode cX3_lines 43 = .ok (.iload_n 2, 1) := by decide +kernel
theorem dX3_lines_44 : decode cX3_lines 44 = .ok (.iconst 1, 1) := by decide +kernel
theorem dX3_lines_45 : decode cX3_lines 45 = .ok (.iadd, 1) := by decide +kernel
theorem dX3_lines_46 : decode cX3_lines 46 = .ok (.istore_n 3, 1) := by decide +kernel
theorem dX3_lines_47 : decode cX3_lines 47 = .ok (.iload_n 3, 1) := by decide +kernel
theorem dX3_lines_48 : decode cX3_lines 48 = .ok (.aload_n 0, 1) := by decide +kernel
theorem dX3_lines_49 : decode cX3_lines 49 = .ok (.getfield 10, 3) := by decide +kernel
theorem dX3_lines_52 : decode cX3_lines 52 = .ok (.getfield 163, 3) := by decide +kernel
theorem dX3_lines_55 : decode cX3_lines 55 = .ok (.if_icmp .ge 44, 3) := by decide +kernel
theorem dX3_lines_58 : decode cX3_lines 58 = .ok (.aload_n 0, 1) := by decide +kernel
theorem dX3_lines_59 : decode cX3_lines 59 = .ok (.iload_n 2, 1) := by decide +kernel
theorem dX3_lines_60 : decode cX3_lines 60 = .ok (.iload_n 3, 1) := by decide +kernel
theorem dX3_lines_61 : decode cX3_lines 61 = .ok (.invokevirtual 208, 3) := by decide +kernel
theorem dX3_lines_64 : decode cX3_lines 64 = .ok (.istore 4, 2) := by decide +kernel
theorem dX3_lines_66 : decode cX3_lines 66 = .ok (.aload_n 0, 1) := by decide +kernel
theorem dX3_lines_67 : decode cX3_lines 67 = .ok (.iload 4, 2) := by decide +kernel
theorem dX3_lines_69 : decode cX3_lines 69 = .ok (.iload_n 1, 1) := by decide +kernel
theorem dX3_lines_70 : decode cX3_lines 70 = .ok (.invokevirtual 211, 3) := by decide +kernel
theorem dX3_lines_73 : decode cX3_lines 73 = .ok (.ifCond .ne 20, 3) := by decide +kernel
theorem dX3_lines_76 : decode cX3_lines 76 = .ok (.iload_n 1, 1) := by decide +kernel
theorem dX3_lines_77 : decode cX3_lines 77 = .ok (.bipush 28, 2) := by decide +kernel
theorem dX3_lines_79 : decode cX3_lines 79 = .ok (.if_icmp .ge 14, 3) := by decide +kernel
theorem dX3_lines_82 : decode cX3_lines 82 = .ok (.aload_n 0, 1) := by decide +kernel
theorem dX3_lines_83 : decode cX3_lines 83 = .ok (.getfield 45, 3) := by decide +kernel
theorem dX3_lines_86 : decode cX3_lines 86 = .ok (.iload_n 1, 1) := by decide +kernel
theorem dX3_lines_87 : decode cX3_lines 87 = .ok (.iload 4, 2) := by decide +kernel
theorem dX3_lines_89 : decode cX3_lines 89 = .ok (.iastore, 1) := by decide +kernel
theorem dX3_lines_90 : decode cX3_lines 90 = .ok (.iinc 1 1, 3) := by decide +kernel
theorem dX3_lines_93 : decode cX3_lines 93 = .ok (.iinc 3 1, 3) := by decide +kernel
theorem dX3_lines_96 : decode cX3_lines 96 = .ok (.goto (-49), 3) := by decide +kernel
theorem dX3_lines_99 : decode cX3_lines 99 = .ok (.iinc 2 1, 3) := by decide +kernel
theorem dX3_lines_102 : decode cX3_lines 102 = .ok (.goto (-70), 3) := by decide +kernel
theorem dX3_lines_105 : decode cX3_lines 105 = .ok (.iload_n 1, 1) := by decide +kernel
theorem dX3_lines_106 : decode cX3_lines 106 = .ok (.ireturn, 1) := by decide +kernel
theorem dX3_place_0 : decode cX3_place 0 = .ok (.aload_n 0, 1) := by decide +kernel
theorem dX3_place_1 : decode cX3_place 1 = .ok (.iload_n 1, 1) := by decide +kernel
theorem dX3_place_2 : decode cX3_place 2 = .ok (.invokevirtual 80, 3) := by decide +kernel
theorem dX3_place_5 : decode cX3_place 5 = .ok (.iload_n 2, 1) := by decide +kernel
theorem dX3_place_6 : decode cX3_place 6 = .ok (.bipush (-50), 2) := by decide +kernel
theorem dX3_place_8 : decode cX3_place 8 = .ok (.if_icmp .lt 21, 3) := by decide +kernel
theorem dX3_place_11 : decode cX3_place 11 = .ok (.iload_n 2, 1) := by decide +kernel
theorem dX3_place_12 : decode cX3_place 12 = .ok (.bipush 50, 2) := by decide +kernel
theorem dX3_place_14 : decode cX3_place 14 = .ok (.if_icmp .gt 15, 3) := by decide +kernel
theorem dX3_place_17 : decode cX3_place 17 = .ok (.iload_n 3, 1) := by decide +kernel
theorem dX3_place_18 : decode cX3_place 18 = .ok (.bipush (-50), 2) := by decide +kernel
theorem dX3_place_20 : decode cX3_place 20 = .ok (.if_icmp .lt 9, 3) := by decide +kernel
theorem dX3_place_23 : decode cX3_place 23 = .ok (.iload_n 3, 1) := by decide +kernel
theorem dX3_place_24 : decode cX3_place 24 = .ok (.bipush 50, 2) := by decide +kernel
theorem dX3_place_26 : decode cX3_place 26 = .ok (.if_icmp .le 13, 3) := by decide +kernel
theorem dX3_place_29 : decode cX3_place 29 = .ok (.new 67, 3) := by decide +kernel
theorem dX3_place_32 : decode cX3_place 32 = .ok (.dup, 1) := by decide +kernel
theorem dX3_place_33 : decode cX3_place 33 = .ok (.ldc 214, 2) := by decide +kernel
theorem dX3_place_35 : decode cX3_place 35 = .ok (.invokespecial 71, 3) := by decide +kernel
theorem dX3_place_38 : decode cX3_place 38 = .ok (.athrow, 1) := by decide +kernel
theorem dX3_place_39 : decode cX3_place 39 = .ok (.aload_n 0, 1) := by decide +kernel
theorem dX3_place_40 : decode cX3_place 40 = .ok (.getfield 19, 3) := by decide +kernel
theorem dX3_place_43 : decode cX3_place 43 = .ok (.getfield 216, 3) := by decide +kernel
theorem dX3_place_46 : decode cX3_place 46 = .ok (.iload_n 1, 1) := by decide +kernel
theorem dX3_place_47 : decode cX3_place 47 = .ok (.iaload, 1) := by decide +kernel
theorem dX3_place_48 : decode cX3_place 48 = .ok (.bipush (-100), 2) := by decide +kernel
theorem dX3_place_50 : decode cX3_place 50 = .ok (.if_icmp .eq 7, 3) := by decide +kernel
theorem dX3_place_53 : decode cX3_place 53 = .ok (.iconst 1, 1) := by decide +kernel
theorem dX3_place_54 : decode cX3_place 54 = .ok (.goto 4, 3) := by decide +kernel
theorem dX3_place_57 : decode cX3_place 57 = .ok (.iconst 0, 1) := by decide +kernel
theorem dX3_place_58 : decode cX3_place 58 = .ok (.istore 4, 2) := by decide +kernel
theorem dX3_place_60 : decode cX3_place 60 = .ok (.aload_n 0, 1) := by decide +kernel
theorem dX3_place_61 : decode cX3_place 61 = .ok (.invokevirtual 74, 3) := by decide +kernel
theorem dX3_place_64 : decode cX3_place 64 = .ok (.aload_n 0, 1) := by decide +kernel
theorem dX3_place_65 : decode cX3_place 65 = .ok (.getfield 19, 3) := by decide +kernel
theorem dX3_place_68 : decode cX3_place 68 = .ok (.getfield 216, 3) := by decide +kernel
theorem dX3_place_71 : decode cX3_place 71 = .ok (.iload_n 1, 1) := by decide +kernel
theorem dX3_place_72 : decode cX3_place 72 = .ok (.iload_n 2, 1) := by decide +kernel
theorem dX3_place_73 : decode cX3_place 73 = .ok (.iastore, 1) := by decide +kernel
theorem dX3_place_74 : decode cX3_place 74 = .ok (.aload_n 0, 1) := by decide +kernel
theorem dX3_place_75 : decode cX3_place 75 = .ok (.getfield 19, 3) := by decide +kernel
theorem dX3_place_78 : decode cX3_place 78 = .ok (.getfield 219, 3) := by decide +kernel
theorem dX3_place_81 : decode cX3_place 81 = .ok (.iload_n 1, 1) := by decide +kernel
theorem dX3_place_82 : decode cX3_place 82 = .ok (.iload_n 3, 1) := by decide +kernel
theorem dX3_place_83 : decode cX3_place 83 = .ok (.iastore, 1) := by decide +kernel
theorem dX3_place_84 : decode cX3_place 84 = .ok (.iload 4, 2) := by decide +kernel
theorem dX3_place_86 : decode cX3_place 86 = .ok (.ireturn, 1) := by decide +kernel
theorem dX3_coordinate_0 : decode cX3_coordinate 0 = .ok (.aload_n 0, 1) := by decide +kernel
theorem dX3_coordinate_1 : decode cX3_coordinate 1 = .ok (.iload_n 1, 1) := by decide +kernel
theorem dX3_coordinate_2 : decode cX3_coordinate 2 = .ok (.invokevirtual 80, 3) := by decide +kernel
theorem dX3_coordinate_5 : decode cX3_coordinate 5 = .ok (.iload_n 2, 1) := by decide +kernel
theorem dX3_coordinate_6 : decode cX3_coordinate 6 = .ok (.ifCond .lt 8, 3) := by decide +kernel
theorem dX3_coordinate_9 : decode cX3_coordinate 9 = .ok (.iload_n 2, 1) := by decide +kernel
theorem dX3_coordinate_10 : decode cX3_coordinate 10 = .ok (.iconst 1, 1) := by decide +kernel
theorem dX3_coordinate_11 : decode cX3_coordinate 11 = .ok (.if_icmp .le 13, 3) := by decide +kernel
theorem dX3_coordinate_14 : decode cX3_coordinate 14 = .ok (.new 67, 3) := by decide +kernel
theorem dX3_coordinate_17 : decode cX3_coordinate 17 = .ok (.dup, 1) := by decide +kernel
theorem dX3_coordinate_18 : decode cX3_coordinate 18 = .ok (.ldc 157, 2) := by decide +kernel
theorem dX3_coordinate_20 : decode cX3_coordinate 20 = .ok (.invokespecial 71, 3) := by decide +kernel
theorem dX3_coordinate_23 : decode cX3_coordinate 23 = .ok (.athrow, 1) := by decide +kernel
theorem dX3_coordinate_24 : decode cX3_coordinate 24 = .ok (.iload_n 2, 1) := by decide +kernel
theorem dX3_coordinate_25 : decode cX3_coordinate 25 = .ok (.ifCond .ne 15, 3) := by decide +kernel
theorem dX3_coordinate_28 : decode cX3_coordinate 28 = .ok (.aload_n 0, 1) := by decide +kernel
theorem dX3_coordinate_29 : decode cX3_coordinate 29 = .ok (.getfield 19, 3) := by decide +kernel
theorem dX3_coordinate_32 : decode cX3_coordinate 32 = .ok (.getfield 216, 3) := by decide +kernel
theorem dX3_coordinate_35 : decode cX3_coordinate 35 = .ok (.iload_n 1, 1) := by decide +kernel
theorem dX3_coordinate_36 : decode cX3_coordinate 36 = .ok (.iaload, 1) := by decide +kernel
theorem dX3_coordinate_37 : decode cX3_coordinate 37 = .ok (.goto 12, 3) := by decide +kernel
theorem dX3_coordinate_40 : decode cX3_coordinate 40 = .ok (.aload_n 0, 1) := by decide +kernel
theorem dX3_coordinate_41 : decode cX3_coordinate 41 = .ok (.getfield 19, 3) := by decide +kernel
theorem dX3_coordinate_44 : decode cX3_coordinate 44 = .ok (.getfield 219, 3) := by decide +kernel
theorem dX3_coordinate_47 : decode cX3_coordinate 47 = .ok (.iload_n 1, 1) := by decide +kernel
theorem dX3_coordinate_48 : decode cX3_coordinate 48 = .ok (.iaload, 1) := by decide +kernel
theorem dX3_coordinate_49 : decode cX3_coordinate 49 = .ok (.ireturn, 1) := by decide +kernel
theorem dX3_read_0 : decode cX3_read 0 = .ok (.aload_n 0, 1) := by decide +kernel
theorem dX3_read_1 : decode cX3_read 1 = .ok (.invokevirtual 74, 3) := by decide +kernel
theorem dX3_read_4 : decode cX3_read 4 = .ok (.iconst 0, 1) := by decide +kernel
theorem dX3_read_5 : decode cX3_read 5 = .ok (.istore_n 1, 1) := by decide +kernel
theorem dX3_read_6 : decode cX3_read 6 = .ok (.iconst 0, 1) := by decide +kernel
theorem dX3_read_7 : decode cX3_read 7 = .ok (.istore_n 2, 1) := by decide +kernel
theorem dX3_read_8 : decode cX3_read 8 = .ok (.iload_n 2, 1) := by decide +kernel
theorem dX3_read_9 : decode cX3_read 9 = .ok (.aload_n 0, 1) := by decide +kernel
theorem dX3_read_10 : decode cX3_read 10 = .ok (.getfield 10, 3) := by decide +kernel
theorem dX3_read_13 : decode cX3_read 13 = .ok (.getfield 77, 3) := by decide +kernel
theorem dX3_read_16 : decode cX3_read 16 = .ok (.if_icmp .ge 47, 3) := by decide +kernel
theorem dX3_read_19 : decode cX3_read 19 = .ok (.aload_n 0, 1) := by decide +kernel
theorem dX3_read_20 : decode cX3_read 20 = .ok (.getfield 10, 3) := by decide +kernel
theorem dX3_read_23 : decode cX3_read 23 = .ok (.iload_n 2, 1) := by decide +kernel
theorem dX3_read_24 : decode cX3_read 24 = .ok (.aload_n 0, 1) := by decide +kernel
theorem dX3_read_25 : decode cX3_read 25 = .ok (.getfield 19, 3) := by decide +kernel
theorem dX3_read_28 : decode cX3_read 28 = .ok (.getfield 216, 3) := by decide +kernel
theorem dX3_read_31 : decode cX3_read 31 = .ok (.aload_n 0, 1) := by decide +kernel
theorem dX3_read_32 : decode cX3_read 32 = .ok (.getfield 19, 3) := by decide +kernel
theorem dX3_read_35 : decode cX3_read 35 = .ok (.getfield 219, 3) := by decide +kernel
theorem dX3_read_38 : decode cX3_read 38 = .ok (.invokevirtual 222, 3) := by decide +kernel
theorem dX3_read_41 : decode cX3_read 41 = .ok (.istore_n 3, 1) := by decide +kernel
theorem dX3_read_42 : decode cX3_read 42 = .ok (.iload_n 3, 1) := by decide +kernel
theorem dX3_read_43 : decode cX3_read 43 = .ok (.bipush (-100), 2) := by decide +kernel
theorem dX3_read_45 : decode cX3_read 45 = .ok (.if_icmp .eq 12, 3) := by decide +kernel
theorem dX3_read_48 : decode cX3_read 48 = .ok (.aload_n 0, 1) := by decide +kernel
theorem dX3_read_49 : decode cX3_read 49 = .ok (.iload_n 2, 1) := by decide +kernel
theorem dX3_read_50 : decode cX3_read 50 = .ok (.iload_n 3, 1) := by decide +kernel
theorem dX3_read_51 : decode cX3_read 51 = .ok (.invokevirtual 226, 3) := by decide +kernel
theorem dX3_read_54 : decode cX3_read 54 = .ok (.iinc 1 1, 3) := by decide +kernel
theorem dX3_read_57 : decode cX3_read 57 = .ok (.iinc 2 1, 3) := by decide +kernel
theorem dX3_read_60 : decode cX3_read 60 = .ok (.goto (-52), 3) := by decide +kernel
theorem dX3_read_63 : decode cX3_read 63 = .ok (.iload_n 1, 1) := by decide +kernel
theorem dX3_read_64 : decode cX3_read 64 = .ok (.ireturn, 1) := by decide +kernel
theorem dX3_mismatches_0 : decode cX3_mismatches 0 = .ok (.aload_n 0, 1) := by decide +kernel
theorem dX3_mismatches_1 : decode cX3_mismatches 1 = .ok (.aload_n 0, 1) := by decide +kernel
theorem dX3_mismatches_2 : decode cX3_mismatches 2 = .ok (.getfield 19, 3) := by decide +kernel
theorem dX3_mismatches_5 : decode cX3_mismatches 5 = .ok (.getfield 216, 3) := by decide +kernel
theorem dX3_mismatches_8 : decode cX3_mismatches 8 = .ok (.aload_n 0, 1) := by decide +kernel
theorem dX3_mismatches_9 : decode cX3_mismatches 9 = .ok (.getfield 19, 3) := by decide +kernel
theorem dX3_mismatches_12 : decode cX3_mismatches 12 = .ok (.getfield 219, 3) := by decide +kernel
theorem dX3_mismatches_15 : decode cX3_mismatches 15 = .ok (.invokevirtual 229, 3) := by decide +kernel
theorem dX3_mismatches_18 : decode cX3_mismatches 18 = .ok (.ireturn, 1) := by decide +kernel
theorem dX3_scatter_0 : decode cX3_scatter 0 = .ok (.iload_n 1, 1) := by decide +kernel
theorem dX3_scatter_1 : decode cX3_scatter 1 = .ok (.ifCond .lt 9, 3) := by decide +kernel
theorem dX3_scatter_4 : decode cX3_scatter 4 = .ok (.iload_n 1, 1) := by decide +kernel
theorem dX3_scatter_5 : decode cX3_scatter 5 = .ok (.ldc 233, 2) := by decide +kernel
theorem dX3_scatter_7 : decode cX3_scatter 7 = .ok (.if_icmp .le 13, 3) := by decide +kernel
theorem dX3_scatter_10 : decode cX3_scatter 10 = .ok (.new 67, 3) := by decide +kernel
theorem dX3_scatter_13 : decode cX3_scatter 13 = .ok (.dup, 1) := by decide +kernel
theorem dX3_scatter_14 : decode cX3_scatter 14 = .ok (.ldc 234, 2) := by decide +kernel
theorem dX3_scatter_16 : decode cX3_scatter 16 = .ok (.invokespecial 71, 3) := by decide +kernel
theorem dX3_scatter_19 : decode cX3_scatter 19 = .ok (.athrow, 1) := by decide +kernel
theorem dX3_scatter_20 : decode cX3_scatter 20 = .ok (.iload_n 2, 1) := by decide +kernel
theorem dX3_scatter_21 : decode cX3_scatter 21 = .ok (.iconst 1, 1) := by decide +kernel
theorem dX3_scatter_22 : decode cX3_scatter 22 = .ok (.if_icmp .lt 9, 3) := by decide +kernel
theorem dX3_scatter_25 : decode cX3_scatter 25 = .ok (.iload_n 2, 1) := by decide +kernel
theorem dX3_scatter_26 : decode cX3_scatter 26 = .ok (.bipush 50, 2) := by decide +kernel
theorem dX3_scatter_28 : decode cX3_scatter 28 = .ok (.if_icmp .le 13, 3) := by decide +kernel
theorem dX3_scatter_31 : decode cX3_scatter 31 = .ok (.new 67, 3) := by decide +kernel
theorem dX3_scatter_34 : decode cX3_scatter 34 = .ok (.dup, 1) := by decide +kernel
theorem dX3_scatter_35 : decode cX3_scatter 35 = .ok (.ldc 236, 2) := by decide +kernel
theorem dX3_scatter_37 : decode cX3_scatter 37 = .ok (.invokespecial 71, 3) := by decide +kernel
theorem dX3_scatter_40 : decode cX3_scatter 40 = .ok (.athrow, 1) := by decide +kernel
theorem dX3_scatter_41 : decode cX3_scatter 41 = .ok (.iload_n 3, 1) := by decide +kernel
theorem dX3_scatter_42 : decode cX3_scatter 42 = .ok (.iconst 1, 1) := by decide +kernel
theorem dX3_scatter_43 : decode cX3_scatter 43 = .ok (.if_icmp .lt 9, 3) := by decide +kernel
theorem dX3_scatter_46 : decode cX3_scatter 46 = .ok (.iload_n 3, 1) := by decide +kernel
theorem dX3_scatter_47 : decode cX3_scatter 47 = .ok (.bipush 50, 2) := by decide +kernel
theorem dX3_scatter_49 : decode cX3_scatter 49 = .ok (.if_icmp .le 13, 3) := by decide +kernel
theorem dX3_scatter_52 : decode cX3_scatter 52 = .ok (.new 67, 3) := by decide +kernel
theorem dX3_scatter_55 : decode cX3_scatter 55 = .ok (.dup, 1) := by decide +kernel
theorem dX3_scatter_56 : decode cX3_scatter 56 = .ok (.ldc 238, 2) := by decide +kernel
theorem dX3_scatter_58 : decode cX3_scatter 58 = .ok (.invokespecial 71, 3) := by decide +kernel
theorem dX3_scatter_61 : decode cX3_scatter 61 = .ok (.athrow, 1) := by decide +kernel
theorem dX3_scatter_62 : decode cX3_scatter 62 = .ok (.aload_n 0, 1) := by decide +kernel
theorem dX3_scatter_63 : decode cX3_scatter 63 = .ok (.invokevirtual 74, 3) := by decide +kernel
theorem dX3_scatter_66 : decode cX3_scatter 66 = .ok (.bipush 57, 2) := by decide +kernel
theorem dX3_scatter_68 : decode cX3_scatter 68 = .ok (.istore 4, 2) := by decide +kernel
theorem dX3_scatter_70 : decode cX3_scatter 70 = .ok (.iload_n 1, 1) := by decide +kernel
theorem dX3_scatter_71 : decode cX3_scatter 71 = .ok (.i2l, 1) := by decide +kernel
theorem dX3_scatter_72 : decode cX3_scatter 72 = .ok (.lstore 5, 2) := by decide +kernel
theorem dX3_scatter_74 : decode cX3_scatter 74 = .ok (.iconst 0, 1) := by decide +kernel
theorem dX3_scatter_75 : decode cX3_scatter 75 = .ok (.istore 7, 2) := by decide +kernel
theorem dX3_scatter_77 : decode cX3_scatter 77 = .ok (.iload 7, 2) := by decide +kernel
theorem dX3_scatter_79 : decode cX3_scatter 79 = .ok (.iload_n 2, 1) := by decide +kernel
theorem dX3_scatter_80 : decode cX3_scatter 80 = .ok (.if_icmp .ge 63, 3) := by decide +kernel
theorem dX3_scatter_83 : decode cX3_scatter 83 = .ok (.aload_n 0, 1) := by decide +kernel
theorem dX3_scatter_84 : decode cX3_scatter 84 = .ok (.lload 5, 2) := by decide +kernel
theorem dX3_scatter_86 : decode cX3_scatter 86 = .ok (.iload_n 3, 1) := by decide +kernel
theorem dX3_scatter_87 : decode cX3_scatter 87 = .ok (.invokevirtual 240, 3) := by decide +kernel
theorem dX3_scatter_90 : decode cX3_scatter 90 = .ok (.lstore 5, 2) := by decide +kernel
theorem dX3_scatter_92 : decode cX3_scatter 92 = .ok (.aload_n 0, 1) := by decide +kernel
theorem dX3_scatter_93 : decode cX3_scatter 93 = .ok (.aload_n 0, 1) := by decide +kernel
theorem dX3_scatter_94 : decode cX3_scatter 94 = .ok (.getfield 48, 3) := by decide +kernel
theorem dX3_scatter_97 : decode cX3_scatter 97 = .ok (.aload_n 0, 1) := by decide +kernel
theorem dX3_scatter_98 : decode cX3_scatter 98 = .ok (.getfield 51, 3) := by decide +kernel
theorem dX3_scatter_101 : decode cX3_scatter 101 = .ok (.invokevirtual 229, 3) := by decide +kernel
theorem dX3_scatter_104 : decode cX3_scatter 104 = .ok (.istore 8, 2) := by decide +kernel
theorem dX3_scatter_106 : decode cX3_scatter 106 = .ok (.iload 8, 2) := by decide +kernel
theorem dX3_scatter_108 : decode cX3_scatter 108 = .ok (.iload 4, 2) := by decide +kernel
theorem dX3_scatter_110 : decode cX3_scatter 110 = .ok (.if_icmp .ge 27, 3) := by decide +kernel
theorem dX3_scatter_113 : decode cX3_scatter 113 = .ok (.iload 8, 2) := by decide +kernel
theorem dX3_scatter_115 : decode cX3_scatter 115 = .ok (.istore 4, 2) := by decide +kernel
theorem dX3_scatter_117 : decode cX3_scatter 117 = .ok (.aload_n 0, 1) := by decide +kernel
theorem dX3_scatter_118 : decode cX3_scatter 118 = .ok (.aload_n 0, 1) := by decide +kernel
theorem dX3_scatter_119 : decode cX3_scatter 119 = .ok (.getfield 48, 3) := by decide +kernel
theorem dX3_scatter_122 : decode cX3_scatter 122 = .ok (.aload_n 0, 1) := by decide +kernel
theorem dX3_scatter_123 : decode cX3_scatter 123 = .ok (.getfield 51, 3) := by decide +kernel
theorem dX3_scatter_126 : decode cX3_scatter 126 = .ok (.aload_n 0, 1) := by decide +kernel
theorem dX3_scatter_127 : decode cX3_scatter 127 = .ok (.getfield 54, 3) := by decide +kernel
theorem dX3_scatter_130 : decode cX3_scatter 130 = .ok (.aload_n 0, 1) := by decide +kernel
theorem dX3_scatter_131 : decode cX3_scatter 131 = .ok (.getfield 57, 3) := by decide +kernel
theorem dX3_scatter_134 : decode cX3_scatter 134 = .ok (.invokevirtual 244, 3) := by decide +kernel
theorem dX3_scatter_137 : decode cX3_scatter 137 = .ok (.iinc 7 1, 3) := by decide +kernel
theorem dX3_scatter_140 : decode cX3_scatter 140 = .ok (.goto (-63), 3) := by decide +kernel
theorem dX3_scatter_143 : decode cX3_scatter 143 = .ok (.aload_n 0, 1) := by decide +kernel
theorem dX3_scatter_144 : decode cX3_scatter 144 = .ok (.aload_n 0, 1) := by decide +kernel
theorem dX3_scatter_145 : decode cX3_scatter 145 = .ok (.getfield 54, 3) := by decide +kernel
theorem dX3_scatter_148 : decode cX3_scatter 148 = .ok (.aload_n 0, 1) := by decide +kernel
theorem dX3_scatter_149 : decode cX3_scatter 149 = .ok (.getfield 57, 3) := by decide +kernel
theorem dX3_scatter_152 : decode cX3_scatter 152 = .ok (.aload_n 0, 1) := by decide +kernel
theorem dX3_scatter_153 : decode cX3_scatter 153 = .ok (.getfield 19, 3) := by decide +kernel
theorem dX3_scatter_156 : decode cX3_scatter 156 = .ok (.getfield 216, 3) := by decide +kernel
theorem dX3_scatter_159 : decode cX3_scatter 159 = .ok (.aload_n 0, 1) := by decide +kernel
theorem dX3_scatter_160 : decode cX3_scatter 160 = .ok (.getfield 19, 3) := by decide +kernel
theorem dX3_scatter_163 : decode cX3_scatter 163 = .ok (.getfield 219, 3) := by decide +kernel
theorem dX3_scatter_166 : decode cX3_scatter 166 = .ok (.invokevirtual 244, 3) := by decide +kernel
theorem dX3_scatter_169 : decode cX3_scatter 169 = .ok (.iload 4, 2) := by decide +kernel
theorem dX3_scatter_171 : decode cX3_scatter 171 = .ok (.ireturn, 1) := by decide +kernel
theorem dX3_type_0 : decode cX3_type 0 = .ok (.iload_n 1, 1) := by decide +kernel
theorem dX3_type_1 : decode cX3_type 1 = .ok (.ifCond .lt 9, 3) := by decide +kernel
theorem dX3_type_4 : decode cX3_type 4 = .ok (.iload_n 1, 1) := by decide +kernel
theorem dX3_type_5 : decode cX3_type 5 = .ok (.bipush 127, 2) := by decide +kernel
theorem dX3_type_7 : decode cX3_type 7 = .ok (.if_icmp .le 13, 3) := by decide +kernel
theorem dX3_type_10 : decode cX3_type 10 = .ok (.new 67, 3) := by decide +kernel
theorem dX3_type_13 : decode cX3_type 13 = .ok (.dup, 1) := by decide +kernel
theorem dX3_type_14 : decode cX3_type 14 = .ok (.ldc 248, 2) := by decide +kernel
theorem dX3_type_16 : decode cX3_type 16 = .ok (.invokespecial 71, 3) := by decide +kernel
theorem dX3_type_19 : decode cX3_type 19 = .ok (.athrow, 1) := by decide +kernel
theorem dX3_type_20 : decode cX3_type 20 = .ok (.aload_n 0, 1) := by decide +kernel
theorem dX3_type_21 : decode cX3_type 21 = .ok (.getfield 26, 3) := by decide +kernel
theorem dX3_type_24 : decode cX3_type 24 = .ok (.getfield 250, 3) := by decide +kernel
theorem dX3_type_27 : decode cX3_type 27 = .ok (.bipush 120, 2) := by decide +kernel
theorem dX3_type_29 : decode cX3_type 29 = .ok (.if_icmp .lt 13, 3) := by decide +kernel
theorem dX3_type_32 : decode cX3_type 32 = .ok (.new 103, 3) := by decide +kernel
theorem dX3_type_35 : decode cX3_type 35 = .ok (.dup, 1) := by decide +kernel
theorem dX3_type_36 : decode cX3_type 36 = .ok (.ldc 253, 2) := by decide +kernel
theorem dX3_type_38 : decode cX3_type 38 = .ok (.invokespecial 107, 3) := by decide +kernel
theorem dX3_type_41 : decode cX3_type 41 = .ok (.athrow, 1) := by decide +kernel
theorem dX3_type_42 : decode cX3_type 42 = .ok (.aload_n 0, 1) := by decide +kernel
theorem dX3_type_43 : decode cX3_type 43 = .ok (.getfield 26, 3) := by decide +kernel
theorem dX3_type_46 : decode cX3_type 46 = .ok (.getfield 255, 3) := by decide +kernel
theorem dX3_type_49 : decode cX3_type 49 = .ok (.aload_n 0, 1) := by decide +kernel
theorem dX3_type_50 : decode cX3_type 50 = .ok (.getfield 26, 3) := by decide +kernel
theorem dX3_type_53 : decode cX3_type 53 = .ok (.getfield 250, 3) := by decide +kernel
theorem dX3_type_56 : decode cX3_type 56 = .ok (.iload_n 1, 1) := by decide +kernel
theorem dX3_type_57 : decode cX3_type 57 = .ok (.iastore, 1) := by decide +kernel
theorem dX3_type_58 : decode cX3_type 58 = .ok (.aload_n 0, 1) := by decide +kernel
theorem dX3_type_59 : decode cX3_type 59 = .ok (.getfield 26, 3) := by decide +kernel
theorem dX3_type_62 : decode cX3_type 62 = .ok (.dup, 1) := by decide +kernel
theorem dX3_type_63 : decode cX3_type 63 = .ok (.getfield 250, 3) := by decide +kernel
theorem dX3_type_66 : decode cX3_type 66 = .ok (.iconst 1, 1) := by decide +kernel
theorem dX3_type_67 : decode cX3_type 67 = .ok (.iadd, 1) := by decide +kernel
theorem dX3_type_68 : decode cX3_type 68 = .ok (.putfield 250, 3) := by decide +kernel
theorem dX3_type_71 : decode cX3_type 71 = .ok (.aload_n 0, 1) := by decide +kernel
theorem dX3_type_72 : decode cX3_type 72 = .ok (.getfield 26, 3) := by decide +kernel
theorem dX3_type_75 : decode cX3_type 75 = .ok (.getfield 250, 3) := by decide +kernel
theorem dX3_type_78 : decode cX3_type 78 = .ok (.ireturn, 1) := by decide +kernel
theorem dX3_clearScript_0 : decode cX3_clearScript 0 = .ok (.aload_n 0, 1) := by decide +kernel
theorem dX3_clearScript_1 : decode cX3_clearScript 1 = .ok (.getfield 26, 3) := by decide +kernel
theorem dX3_clearScript_4 : decode cX3_clearScript 4 = .ok (.getfield 250, 3) := by decide +kernel
theorem dX3_clearScript_7 : decode cX3_clearScript 7 = .ok (.istore_n 1, 1) := by decide +kernel
theorem dX3_clearScript_8 : decode cX3_clearScript 8 = .ok (.aload_n 0, 1) := by decide +kernel
theorem dX3_clearScript_9 : decode cX3_clearScript 9 = .ok (.getfield 26, 3) := by decide +kernel
theorem dX3_clearScript_12 : decode cX3_clearScript 12 = .ok (.iconst 0, 1) := by decide +kernel
theorem dX3_clearScript_13 : decode cX3_clearScript 13 = .ok (.putfield 250, 3) := by decide +kernel
theorem dX3_clearScript_16 : decode cX3_clearScript 16 = .ok (.iload_n 1, 1) := by decide +kernel
theorem dX3_clearScript_17 : decode cX3_clearScript 17 = .ok (.ireturn, 1) := by decide +kernel
theorem dX3_run_0 : decode cX3_run 0 = .ok (.aload_n 0, 1) := by decide +kernel
theorem dX3_run_1 : decode cX3_run 1 = .ok (.getfield 26, 3) := by decide +kernel
theorem dX3_run_4 : decode cX3_run 4 = .ok (.invokevirtual 258, 3) := by decide +kernel
theorem dX3_run_7 : decode cX3_run 7 = .ok (.istore_n 1, 1) := by decide +kernel
theorem dX3_run_8 : decode cX3_run 8 = .ok (.iload_n 1, 1) := by decide +kernel
theorem dX3_run_9 : decode cX3_run 9 = .ok (.bipush (-100), 2) := by decide +kernel
theorem dX3_run_11 : decode cX3_run 11 = .ok (.if_icmp .eq 9, 3) := by decide +kernel
theorem dX3_run_14 : decode cX3_run 14 = .ok (.sipush (-1000), 3) := by decide +kernel
theorem dX3_run_17 : decode cX3_run 17 = .ok (.iload_n 1, 1) := by decide +kernel
theorem dX3_run_18 : decode cX3_run 18 = .ok (.isub, 1) := by decide +kernel
theorem dX3_run_19 : decode cX3_run 19 = .ok (.ireturn, 1) := by decide +kernel
theorem dX3_run_20 : decode cX3_run 20 = .ok (.aload_n 0, 1) := by decide +kernel
theorem dX3_run_21 : decode cX3_run 21 = .ok (.invokevirtual 74, 3) := by decide +kernel
theorem dX3_run_24 : decode cX3_run 24 = .ok (.iconst 0, 1) := by decide +kernel
theorem dX3_run_25 : decode cX3_run 25 = .ok (.istore_n 2, 1) := by decide +kernel
theorem dX3_run_26 : decode cX3_run 26 = .ok (.iload_n 2, 1) := by decide +kernel
theorem dX3_run_27 : decode cX3_run 27 = .ok (.aload_n 0, 1) := by decide +kernel
theorem dX3_run_28 : decode cX3_run 28 = .ok (.getfield 26, 3) := by decide +kernel
theorem dX3_run_31 : decode cX3_run 31 = .ok (.getfield 261, 3) := by decide +kernel
theorem dX3_run_34 : decode cX3_run 34 = .ok (.if_icmp .ge 17, 3) := by decide +kernel
theorem dX3_run_37 : decode cX3_run 37 = .ok (.aload_n 0, 1) := by decide +kernel
theorem dX3_run_38 : decode cX3_run 38 = .ok (.iload_n 2, 1) := by decide +kernel
theorem dX3_run_39 : decode cX3_run 39 = .ok (.invokevirtual 264, 3) := by decide +kernel
theorem dX3_run_42 : decode cX3_run 42 = .ok (.ifCond .eq 9, 3) := by decide +kernel
theorem dX3_run_45 : decode cX3_run 45 = .ok (.iinc 2 1, 3) := by decide +kernel
theorem dX3_run_48 : decode cX3_run 48 = .ok (.goto (-22), 3) := by decide +kernel
theorem dX3_run_51 : decode cX3_run 51 = .ok (.iload_n 2, 1) := by decide +kernel
theorem dX3_run_52 : decode cX3_run 52 = .ok (.ireturn, 1) := by decide +kernel
theorem dX3_written_0 : decode cX3_written 0 = .ok (.iload_n 1, 1) := by decide +kernel
theorem dX3_written_1 : decode cX3_written 1 = .ok (.ifCond .ge 14, 3) := by decide +kernel
theorem dX3_written_4 : decode cX3_written 4 = .ok (.new 67, 3) := by decide +kernel
theorem dX3_written_7 : decode cX3_written 7 = .ok (.dup, 1) := by decide +kernel
theorem dX3_written_8 : decode cX3_written 8 = .ok (.ldc_w 268, 3) := by decide +kernel
theorem dX3_written_11 : decode cX3_written 11 = .ok (.invokespecial 71, 3) := by decide +kernel
theorem dX3_written_14 : decode cX3_written 14 = .ok (.athrow, 1) := by decide +kernel
theorem dX3_written_15 : decode cX3_written 15 = .ok (.iload_n 1, 1) := by decide +kernel
theorem dX3_written_16 : decode cX3_written 16 = .ok (.istore_n 2, 1) := by decide +kernel
theorem dX3_written_17 : decode cX3_written 17 = .ok (.iconst 0, 1) := by decide +kernel
theorem dX3_written_18 : decode cX3_written 18 = .ok (.istore_n 3, 1) := by decide +kernel
theorem dX3_written_19 : decode cX3_written 19 = .ok (.iload_n 3, 1) := by decide +kernel
theorem dX3_written_20 : decode cX3_written 20 = .ok (.aload_n 0, 1) := by decide +kernel
theorem dX3_written_21 : decode cX3_written 21 = .ok (.getfield 10, 3) := by decide +kernel
theorem dX3_written_24 : decode cX3_written 24 = .ok (.getfield 77, 3) := by decide +kernel
theorem dX3_written_27 : decode cX3_written 27 = .ok (.if_icmp .ge 68, 3) := by decide +kernel
theorem dX3_written_30 : decode cX3_written 30 = .ok (.aload_n 0, 1) := by decide +kernel
theorem dX3_written_31 : decode cX3_written 31 = .ok (.getfield 19, 3) := by decide +kernel
theorem dX3_written_34 : decode cX3_written 34 = .ok (.getfield 100, 3) := by decide +kernel
theorem dX3_written_37 : decode cX3_written 37 = .ok (.iload_n 3, 1) := by decide +kernel
theorem dX3_written_38 : decode cX3_written 38 = .ok (.iaload, 1) := by decide +kernel
theorem dX3_written_39 : decode cX3_written 39 = .ok (.iconst 1, 1) := by decide +kernel
theorem dX3_written_40 : decode cX3_written 40 = .ok (.if_icmp .ne 49, 3) := by decide +kernel
theorem dX3_written_43 : decode cX3_written 43 = .ok (.aload_n 0, 1) := by decide +kernel
theorem dX3_written_44 : decode cX3_written 44 = .ok (.getfield 19, 3) := by decide +kernel
theorem dX3_written_47 : decode cX3_written 47 = .ok (.getfield 129, 3) := by decide +kernel
theorem dX3_written_50 : decode cX3_written 50 = .ok (.iload_n 3, 1) := by decide +kernel
theorem dX3_written_51 : decode cX3_written 51 = .ok (.iaload, 1) := by decide +kernel
theorem dX3_written_52 : decode cX3_written 52 = .ok (.invokestatic 270, 3) := by decide +kernel
theorem dX3_written_55 : decode cX3_written 55 = .ok (.invokestatic 274, 3) := by decide +kernel
theorem dX3_written_58 : decode cX3_written 58 = .ok (.astore 4, 2) := by decide +kernel
theorem dX3_written_60 : decode cX3_written 60 = .ok (.aload 4, 2) := by decide +kernel
theorem dX3_written_62 : decode cX3_written 62 = .ok (.invokevirtual 278, 3) := by decide +kernel
theorem dX3_written_65 : decode cX3_written 65 = .ok (.iconst 5, 1) := by decide +kernel
theorem dX3_written_66 : decode cX3_written 66 = .ok (.iadd, 1) := by decide +kernel
theorem dX3_written_67 : decode cX3_written 67 = .ok (.istore 5, 2) := by decide +kernel
theorem dX3_written_69 : decode cX3_written 69 = .ok (.iload_n 2, 1) := by decide +kernel
theorem dX3_written_70 : decode cX3_written 70 = .ok (.iload 5, 2) := by decide +kernel
theorem dX3_written_72 : decode cX3_written 72 = .ok (.if_icmp .ge 12, 3) := by decide +kernel
theorem dX3_written_75 : decode cX3_written 75 = .ok (.aload_n 0, 1) := by decide +kernel
theorem dX3_written_76 : decode cX3_written 76 = .ok (.iload_n 3, 1) := by decide +kernel
theorem dX3_written_77 : decode cX3_written 77 = .ok (.aload 4, 2) := by decide +kernel
theorem dX3_written_79 : decode cX3_written 79 = .ok (.iload_n 2, 1) := by decide +kernel
theorem dX3_written_80 : decode cX3_written 80 = .ok (.invokevirtual 282, 3) := by decide +kernel
theorem dX3_written_83 : decode cX3_written 83 = .ok (.ireturn, 1) := by decide +kernel
theorem dX3_written_84 : decode cX3_written 84 = .ok (.iload_n 2, 1) := by decide +kernel
theorem dX3_written_85 : decode cX3_written 85 = .ok (.iload 5, 2) := by decide +kernel
theorem dX3_written_87 : decode cX3_written 87 = .ok (.isub, 1) := by decide +kernel
theorem dX3_written_88 : decode cX3_written 88 = .ok (.istore_n 2, 1) := by decide +kernel
theorem dX3_written_89 : decode cX3_written 89 = .ok (.iinc 3 1, 3) := by decide +kernel
theorem dX3_written_92 : decode cX3_written 92 = .ok (.goto (-73), 3) := by decide +kernel
theorem dX3_written_95 : decode cX3_written 95 = .ok (.bipush (-100), 2) := by decide +kernel
theorem dX3_written_97 : decode cX3_written 97 = .ok (.ireturn, 1) := by decide +kernel
theorem dX3_undo_0 : decode cX3_undo 0 = .ok (.aload_n 0, 1) := by decide +kernel
theorem dX3_undo_1 : decode cX3_undo 1 = .ok (.getfield 34, 3) := by decide +kernel
theorem dX3_undo_4 : decode cX3_undo 4 = .ok (.iconst 1, 1) := by decide +kernel
theorem dX3_undo_5 : decode cX3_undo 5 = .ok (.if_icmp .lt 11, 3) := by decide +kernel
theorem dX3_undo_8 : decode cX3_undo 8 = .ok (.aload_n 0, 1) := by decide +kernel
theorem dX3_undo_9 : decode cX3_undo 9 = .ok (.getfield 34, 3) := by decide +kernel
theorem dX3_undo_12 : decode cX3_undo 12 = .ok (.iconst 4, 1) := by decide +kernel
theorem dX3_undo_13 : decode cX3_undo 13 = .ok (.if_icmp .le 14, 3) := by decide +kernel
theorem dX3_undo_16 : decode cX3_undo 16 = .ok (.new 103, 3) := by decide +kernel
theorem dX3_undo_19 : decode cX3_undo 19 = .ok (.dup, 1) := by decide +kernel
theorem dX3_undo_20 : decode cX3_undo 20 = .ok (.ldc_w 286, 3) := by decide +kernel
theorem dX3_undo_23 : decode cX3_undo 23 = .ok (.invokespecial 107, 3) := by decide +kernel
theorem dX3_undo_26 : decode cX3_undo 26 = .ok (.athrow, 1) := by decide +kernel
theorem dX3_undo_27 : decode cX3_undo 27 = .ok (.aload_n 0, 1) := by decide +kernel
theorem dX3_undo_28 : decode cX3_undo 28 = .ok (.dup, 1) := by decide +kernel
theorem dX3_undo_29 : decode cX3_undo 29 = .ok (.getfield 34, 3) := by decide +kernel
theorem dX3_undo_32 : decode cX3_undo 32 = .ok (.iconst 1, 1) := by decide +kernel
theorem dX3_undo_33 : decode cX3_undo 33 = .ok (.isub, 1) := by decide +kernel
theorem dX3_undo_34 : decode cX3_undo 34 = .ok (.putfield 34, 3) := by decide +kernel
theorem dX3_undo_37 : decode cX3_undo 37 = .ok (.aload_n 0, 1) := by decide +kernel
theorem dX3_undo_38 : decode cX3_undo 38 = .ok (.getfield 19, 3) := by decide +kernel
theorem dX3_undo_41 : decode cX3_undo 41 = .ok (.aload_n 0, 1) := by decide +kernel
theorem dX3_undo_42 : decode cX3_undo 42 = .ok (.getfield 30, 3) := by decide +kernel
theorem dX3_undo_45 : decode cX3_undo 45 = .ok (.aload_n 0, 1) := by decide +kernel
theorem dX3_undo_46 : decode cX3_undo 46 = .ok (.getfield 34, 3) := by decide +kernel
theorem dX3_undo_49 : decode cX3_undo 49 = .ok (.aaload, 1) := by decide +kernel
theorem dX3_undo_50 : decode cX3_undo 50 = .ok (.invokevirtual 288, 3) := by decide +kernel
theorem dX3_undo_53 : decode cX3_undo 53 = .ok (.aload_n 0, 1) := by decide +kernel
theorem dX3_undo_54 : decode cX3_undo 54 = .ok (.getfield 10, 3) := by decide +kernel
theorem dX3_undo_57 : decode cX3_undo 57 = .ok (.getfield 163, 3) := by decide +kernel
theorem dX3_undo_60 : decode cX3_undo 60 = .ok (.aload_n 0, 1) := by decide +kernel
theorem dX3_undo_61 : decode cX3_undo 61 = .ok (.getfield 19, 3) := by decide +kernel
theorem dX3_undo_64 : decode cX3_undo 64 = .ok (.getfield 292, 3) := by decide +kernel
theorem dX3_undo_67 : decode cX3_undo 67 = .ok (.if_icmp .eq 17, 3) := by decide +kernel
theorem dX3_undo_70 : decode cX3_undo 70 = .ok (.aload_n 0, 1) := by decide +kernel
theorem dX3_undo_71 : decode cX3_undo 71 = .ok (.getfield 10, 3) := by decide +kernel
theorem dX3_undo_74 : decode cX3_undo 74 = .ok (.aload_n 0, 1) := by decide +kernel
theorem dX3_undo_75 : decode cX3_undo 75 = .ok (.getfield 19, 3) := by decide +kernel
theorem dX3_undo_78 : decode cX3_undo 78 = .ok (.getfield 292, 3) := by decide +kernel
theorem dX3_undo_81 : decode cX3_undo 81 = .ok (.invokevirtual 64, 3) := by decide +kernel
theorem dX3_undo_84 : decode cX3_undo 84 = .ok (.aload_n 0, 1) := by decide +kernel
theorem dX3_undo_85 : decode cX3_undo 85 = .ok (.getfield 34, 3) := by decide +kernel
theorem dX3_undo_88 : decode cX3_undo 88 = .ok (.ireturn, 1) := by decide +kernel
theorem dX3_digest_0 : decode cX3_digest 0 = .ok (.ldc2_w 293, 3) := by decide +kernel
theorem dX3_digest_3 : decode cX3_digest 3 = .ok (.lstore_n 1, 1) := by decide +kernel
theorem dX3_digest_4 : decode cX3_digest 4 = .ok (.ldc2_w 295, 3) := by decide +kernel
theorem dX3_digest_7 : decode cX3_digest 7 = .ok (.lload_n 1, 1) := by decide +kernel
theorem dX3_digest_8 : decode cX3_digest 8 = .ok (.lmul, 1) := by decide +kernel
theorem dX3_digest_9 : decode cX3_digest 9 = .ok (.aload_n 0, 1) := by decide +kernel
theorem dX3_digest_10 : decode cX3_digest 10 = .ok (.getfield 34, 3) := by decide +kernel
theorem dX3_digest_13 : decode cX3_digest 13 = .ok (.i2l, 1) := by decide +kernel
theorem dX3_digest_14 : decode cX3_digest 14 = .ok (.ladd, 1) := by decide +kernel
theorem dX3_digest_15 : decode cX3_digest 15 = .ok (.lstore_n 1, 1) := by decide +kernel
theorem dX3_digest_16 : decode cX3_digest 16 = .ok (.ldc2_w 295, 3) := by decide +kernel
theorem dX3_digest_19 : decode cX3_digest 19 = .ok (.lload_n 1, 1) := by decide +kernel
theorem dX3_digest_20 : decode cX3_digest 20 = .ok (.lmul, 1) := by decide +kernel
theorem dX3_digest_21 : decode cX3_digest 21 = .ok (.aload_n 0, 1) := by decide +kernel
theorem dX3_digest_22 : decode cX3_digest 22 = .ok (.getfield 26, 3) := by decide +kernel
theorem dX3_digest_25 : decode cX3_digest 25 = .ok (.getfield 250, 3) := by decide +kernel
theorem dX3_digest_28 : decode cX3_digest 28 = .ok (.i2l, 1) := by decide +kernel
theorem dX3_digest_29 : decode cX3_digest 29 = .ok (.ladd, 1) := by decide +kernel
theorem dX3_digest_30 : decode cX3_digest 30 = .ok (.lstore_n 1, 1) := by decide +kernel
theorem dX3_digest_31 : decode cX3_digest 31 = .ok (.iconst 0, 1) := by decide +kernel
theorem dX3_digest_32 : decode cX3_digest 32 = .ok (.istore_n 3, 1) := by decide +kernel
theorem dX3_digest_33 : decode cX3_digest 33 = .ok (.iload_n 3, 1) := by decide +kernel
theorem dX3_digest_34 : decode cX3_digest 34 = .ok (.bipush 9, 2) := by decide +kernel
theorem dX3_digest_36 : decode cX3_digest 36 = .ok (.if_icmp .gt 22, 3) := by decide +kernel
theorem dX3_digest_39 : decode cX3_digest 39 = .ok (.ldc2_w 295, 3) := by decide +kernel
theorem dX3_digest_42 : decode cX3_digest 42 = .ok (.lload_n 1, 1) := by decide +kernel
theorem dX3_digest_43 : decode cX3_digest 43 = .ok (.lmul, 1) := by decide +kernel
theorem dX3_digest_44 : decode cX3_digest 44 = .ok (.aload_n 0, 1) := by decide +kernel
theorem dX3_digest_45 : decode cX3_digest 45 = .ok (.iload_n 3, 1) := by decide +kernel
theorem dX3_digest_46 : decode cX3_digest 46 = .ok (.invokevirtual 297, 3) := by decide +kernel
theorem dX3_digest_49 : decode cX3_digest 49 = .ok (.i2l, 1) := by decide +kernel
theorem dX3_digest_50 : decode cX3_digest 50 = .ok (.ladd, 1) := by decide +kernel
theorem dX3_digest_51 : decode cX3_digest 51 = .ok (.lstore_n 1, 1) := by decide +kernel
theorem dX3_digest_52 : decode cX3_digest 52 = .ok (.iinc 3 1, 3) := by decide +kernel
theorem dX3_digest_55 : decode cX3_digest 55 = .ok (.goto (-22), 3) := by decide +kernel
theorem dX3_digest_58 : decode cX3_digest 58 = .ok (.iconst 0, 1) := by decide +kernel
theorem dX3_digest_59 : decode cX3_digest 59 = .ok (.istore_n 3, 1) := by decide +kernel
theorem dX3_digest_60 : decode cX3_digest 60 = .ok (.iload_n 3, 1) := by decide +kernel
theorem dX3_digest_61 : decode cX3_digest 61 = .ok (.aload_n 0, 1) := by decide +kernel
theorem dX3_digest_62 : decode cX3_digest 62 = .ok (.getfield 10, 3) := by decide +kernel
theorem dX3_digest_65 : decode cX3_digest 65 = .ok (.getfield 77, 3) := by decide +kernel
theorem dX3_digest_68 : decode cX3_digest 68 = .ok (.if_icmp .ge 52, 3) := by decide +kernel
theorem dX3_digest_71 : decode cX3_digest 71 = .ok (.iconst 3, 1) := by decide +kernel
theorem dX3_digest_72 : decode cX3_digest 72 = .ok (.istore 4, 2) := by decide +kernel
theorem dX3_digest_74 : decode cX3_digest 74 = .ok (.iload 4, 2) := by decide +kernel
theorem dX3_digest_76 : decode cX3_digest 76 = .ok (.bipush 6, 2) := by decide +kernel
theorem dX3_digest_78 : decode cX3_digest 78 = .ok (.if_icmp .gt 24, 3) := by decide +kernel
theorem dX3_digest_81 : decode cX3_digest 81 = .ok (.ldc2_w 295, 3) := by decide +kernel
theorem dX3_digest_84 : decode cX3_digest 84 = .ok (.lload_n 1, 1) := by decide +kernel
theorem dX3_digest_85 : decode cX3_digest 85 = .ok (.lmul, 1) := by decide +kernel
theorem dX3_digest_86 : decode cX3_digest 86 = .ok (.aload_n 0, 1) := by decide +kernel
theorem dX3_digest_87 : decode cX3_digest 87 = .ok (.iload_n 3, 1) := by decide +kernel
theorem dX3_digest_88 : decode cX3_digest 88 = .ok (.iload 4, 2) := by decide +kernel
theorem dX3_digest_90 : decode cX3_digest 90 = .ok (.invokevirtual 300, 3) := by decide +kernel
theorem dX3_digest_93 : decode cX3_digest 93 = .ok (.i2l, 1) := by decide +kernel
theorem dX3_digest_94 : decode cX3_digest 94 = .ok (.ladd, 1) := by decide +kernel
theorem dX3_digest_95 : decode cX3_digest 95 = .ok (.lstore_n 1, 1) := by decide +kernel
theorem dX3_digest_96 : decode cX3_digest 96 = .ok (.iinc 4 1, 3) := by decide +kernel
theorem dX3_digest_99 : decode cX3_digest 99 = .ok (.goto (-25), 3) := by decide +kernel
theorem dX3_digest_102 : decode cX3_digest 102 = .ok (.ldc2_w 295, 3) := by decide +kernel
theorem dX3_digest_105 : decode cX3_digest 105 = .ok (.lload_n 1, 1) := by decide +kernel
theorem dX3_digest_106 : decode cX3_digest 106 = .ok (.lmul, 1) := by decide +kernel
theorem dX3_digest_107 : decode cX3_digest 107 = .ok (.aload_n 0, 1) := by decide +kernel
theorem dX3_digest_108 : decode cX3_digest 108 = .ok (.iload_n 3, 1) := by decide +kernel
theorem dX3_digest_109 : decode cX3_digest 109 = .ok (.invokevirtual 303, 3) := by decide +kernel
theorem dX3_digest_112 : decode cX3_digest 112 = .ok (.ladd, 1) := by decide +kernel
theorem dX3_digest_113 : decode cX3_digest 113 = .ok (.lstore_n 1, 1) := by decide +kernel
theorem dX3_digest_114 : decode cX3_digest 114 = .ok (.iinc 3 1, 3) := by decide +kernel
theorem dX3_digest_117 : decode cX3_digest 117 = .ok (.goto (-57), 3) := by decide +kernel
theorem dX3_digest_120 : decode cX3_digest 120 = .ok (.iconst 0, 1) := by decide +kernel
theorem dX3_digest_121 : decode cX3_digest 121 = .ok (.istore_n 3, 1) := by decide +kernel
theorem dX3_digest_122 : decode cX3_digest 122 = .ok (.iload_n 3, 1) := by decide +kernel
theorem dX3_digest_123 : decode cX3_digest 123 = .ok (.aload_n 0, 1) := by decide +kernel
theorem dX3_digest_124 : decode cX3_digest 124 = .ok (.getfield 10, 3) := by decide +kernel
theorem dX3_digest_127 : decode cX3_digest 127 = .ok (.getfield 166, 3) := by decide +kernel
theorem dX3_digest_130 : decode cX3_digest 130 = .ok (.if_icmp .ge 38, 3) := by decide +kernel
theorem dX3_digest_133 : decode cX3_digest 133 = .ok (.ldc2_w 295, 3) := by decide +kernel
theorem dX3_digest_136 : decode cX3_digest 136 = .ok (.lload_n 1, 1) := by decide +kernel
theorem dX3_digest_137 : decode cX3_digest 137 = .ok (.lmul, 1) := by decide +kernel
theorem dX3_digest_138 : decode cX3_digest 138 = .ok (.aload_n 0, 1) := by decide +kernel
theorem dX3_digest_139 : decode cX3_digest 139 = .ok (.iload_n 3, 1) := by decide +kernel
theorem dX3_digest_140 : decode cX3_digest 140 = .ok (.iconst 5, 1) := by decide +kernel
theorem dX3_digest_141 : decode cX3_digest 141 = .ok (.invokevirtual 306, 3) := by decide +kernel
theorem dX3_digest_144 : decode cX3_digest 144 = .ok (.i2l, 1) := by decide +kernel
theorem dX3_digest_145 : decode cX3_digest 145 = .ok (.ladd, 1) := by decide +kernel
theorem dX3_digest_146 : decode cX3_digest 146 = .ok (.lstore_n 1, 1) := by decide +kernel
theorem dX3_digest_147 : decode cX3_digest 147 = .ok (.ldc2_w 295, 3) := by decide +kernel
theorem dX3_digest_150 : decode cX3_digest 150 = .ok (.lload_n 1, 1) := by decide +kernel
theorem dX3_digest_151 : decode cX3_digest 151 = .ok (.lmul, 1) := by decide +kernel
theorem dX3_digest_152 : decode cX3_digest 152 = .ok (.aload_n 0, 1) := by decide +kernel
theorem dX3_digest_153 : decode cX3_digest 153 = .ok (.iload_n 3, 1) := by decide +kernel
theorem dX3_digest_154 : decode cX3_digest 154 = .ok (.bipush 6, 2) := by decide +kernel
theorem dX3_digest_156 : decode cX3_digest 156 = .ok (.invokevirtual 306, 3) := by decide +kernel
theorem dX3_digest_159 : decode cX3_digest 159 = .ok (.i2l, 1) := by decide +kernel
theorem dX3_digest_160 : decode cX3_digest 160 = .ok (.ladd, 1) := by decide +kernel
theorem dX3_digest_161 : decode cX3_digest 161 = .ok (.lstore_n 1, 1) := by decide +kernel
theorem dX3_digest_162 : decode cX3_digest 162 = .ok (.iinc 3 1, 3) := by decide +kernel
theorem dX3_digest_165 : decode cX3_digest 165 = .ok (.goto (-43), 3) := by decide +kernel
theorem dX3_digest_168 : decode cX3_digest 168 = .ok (.iconst 0, 1) := by decide +kernel
theorem dX3_digest_169 : decode cX3_digest 169 = .ok (.istore_n 3, 1) := by decide +kernel
theorem dX3_digest_170 : decode cX3_digest 170 = .ok (.iload_n 3, 1) := by decide +kernel
theorem dX3_digest_171 : decode cX3_digest 171 = .ok (.aload_n 0, 1) := by decide +kernel
theorem dX3_digest_172 : decode cX3_digest 172 = .ok (.getfield 10, 3) := by decide +kernel
theorem dX3_digest_175 : decode cX3_digest 175 = .ok (.getfield 163, 3) := by decide +kernel
theorem dX3_digest_178 : decode cX3_digest 178 = .ok (.if_icmp .ge 58, 3) := by decide +kernel
theorem dX3_digest_181 : decode cX3_digest 181 = .ok (.ldc2_w 295, 3) := by decide +kernel
theorem dX3_digest_184 : decode cX3_digest 184 = .ok (.lload_n 1, 1) := by decide +kernel
theorem dX3_digest_185 : decode cX3_digest 185 = .ok (.lmul, 1) := by decide +kernel
theorem dX3_digest_186 : decode cX3_digest 186 = .ok (.aload_n 0, 1) := by decide +kernel
theorem dX3_digest_187 : decode cX3_digest 187 = .ok (.iload_n 3, 1) := by decide +kernel
theorem dX3_digest_188 : decode cX3_digest 188 = .ok (.invokevirtual 309, 3) := by decide +kernel
theorem dX3_digest_191 : decode cX3_digest 191 = .ok (.ifCond .eq 7, 3) := by decide +kernel
theorem dX3_digest_194 : decode cX3_digest 194 = .ok (.iconst 1, 1) := by decide +kernel
theorem dX3_digest_195 : decode cX3_digest 195 = .ok (.goto 4, 3) := by decide +kernel
theorem dX3_digest_198 : decode cX3_digest 198 = .ok (.iconst 0, 1) := by decide +kernel
theorem dX3_digest_199 : decode cX3_digest 199 = .ok (.i2l, 1) := by decide +kernel
theorem dX3_digest_200 : decode cX3_digest 200 = .ok (.ladd, 1) := by decide +kernel
theorem dX3_digest_201 : decode cX3_digest 201 = .ok (.lstore_n 1, 1) := by decide +kernel
theorem dX3_digest_202 : decode cX3_digest 202 = .ok (.ldc2_w 295, 3) := by decide +kernel
theorem dX3_digest_205 : decode cX3_digest 205 = .ok (.lload_n 1, 1) := by decide +kernel
theorem dX3_digest_206 : decode cX3_digest 206 = .ok (.lmul, 1) := by decide +kernel
theorem dX3_digest_207 : decode cX3_digest 207 = .ok (.aload_n 0, 1) := by decide +kernel
theorem dX3_digest_208 : decode cX3_digest 208 = .ok (.iload_n 3, 1) := by decide +kernel
theorem dX3_digest_209 : decode cX3_digest 209 = .ok (.iconst 0, 1) := by decide +kernel
theorem dX3_digest_210 : decode cX3_digest 210 = .ok (.invokevirtual 312, 3) := by decide +kernel
theorem dX3_digest_213 : decode cX3_digest 213 = .ok (.i2l, 1) := by decide +kernel
theorem dX3_digest_214 : decode cX3_digest 214 = .ok (.ladd, 1) := by decide +kernel
theorem dX3_digest_215 : decode cX3_digest 215 = .ok (.lstore_n 1, 1) := by decide +kernel
theorem dX3_digest_216 : decode cX3_digest 216 = .ok (.ldc2_w 295, 3) := by decide +kernel
theorem dX3_digest_219 : decode cX3_digest 219 = .ok (.lload_n 1, 1) := by decide +kernel
theorem dX3_digest_220 : decode cX3_digest 220 = .ok (.lmul, 1) := by decide +kernel
theorem dX3_digest_221 : decode cX3_digest 221 = .ok (.aload_n 0, 1) := by decide +kernel
theorem dX3_digest_222 : decode cX3_digest 222 = .ok (.iload_n 3, 1) := by decide +kernel
theorem dX3_digest_223 : decode cX3_digest 223 = .ok (.iconst 1, 1) := by decide +kernel
theorem dX3_digest_224 : decode cX3_digest 224 = .ok (.invokevirtual 312, 3) := by decide +kernel
theorem dX3_digest_227 : decode cX3_digest 227 = .ok (.i2l, 1) := by decide +kernel
theorem dX3_digest_228 : decode cX3_digest 228 = .ok (.ladd, 1) := by decide +kernel
theorem dX3_digest_229 : decode cX3_digest 229 = .ok (.lstore_n 1, 1) := by decide +kernel
theorem dX3_digest_230 : decode cX3_digest 230 = .ok (.iinc 3 1, 3) := by decide +kernel
theorem dX3_digest_233 : decode cX3_digest 233 = .ok (.goto (-63), 3) := by decide +kernel
theorem dX3_digest_236 : decode cX3_digest 236 = .ok (.ldc2_w 295, 3) := by decide +kernel
theorem dX3_digest_239 : decode cX3_digest 239 = .ok (.lload_n 1, 1) := by decide +kernel
theorem dX3_digest_240 : decode cX3_digest 240 = .ok (.lmul, 1) := by decide +kernel
theorem dX3_digest_241 : decode cX3_digest 241 = .ok (.aload_n 0, 1) := by decide +kernel
theorem dX3_digest_242 : decode cX3_digest 242 = .ok (.invokevirtual 315, 3) := by decide +kernel
theorem dX3_digest_245 : decode cX3_digest 245 = .ok (.i2l, 1) := by decide +kernel
theorem dX3_digest_246 : decode cX3_digest 246 = .ok (.ladd, 1) := by decide +kernel
theorem dX3_digest_247 : decode cX3_digest 247 = .ok (.lreturn, 1) := by decide +kernel
theorem dX3_isPoint_0 : decode cX3_isPoint 0 = .ok (.iload_n 1, 1) := by decide +kernel
theorem dX3_isPoint_1 : decode cX3_isPoint 1 = .ok (.ifCond .lt 18, 3) := by decide +kernel
theorem dX3_isPoint_4 : decode cX3_isPoint 4 = .ok (.iload_n 1, 1) := by decide +kernel
theorem dX3_isPoint_5 : decode cX3_isPoint 5 = .ok (.aload_n 0, 1) := by decide +kernel
theorem dX3_isPoint_6 : decode cX3_isPoint 6 = .ok (.getfield 10, 3) := by decide +kernel
theorem dX3_isPoint_9 : decode cX3_isPoint 9 = .ok (.getfield 163, 3) := by decide +kernel
theorem dX3_isPoint_12 : decode cX3_isPoint 12 = .ok (.if_icmp .ge 7, 3) := by decide +kernel
theorem dX3_isPoint_15 : decode cX3_isPoint 15 = .ok (.iconst 1, 1) := by decide +kernel
theorem dX3_isPoint_16 : decode cX3_isPoint 16 = .ok (.goto 4, 3) := by decide +kernel
theorem dX3_isPoint_19 : decode cX3_isPoint 19 = .ok (.iconst 0, 1) := by decide +kernel
theorem dX3_isPoint_20 : decode cX3_isPoint 20 = .ok (.ireturn, 1) := by decide +kernel
theorem dX3_requirePoint_0 : decode cX3_requirePoint 0 = .ok (.aload_n 0, 1) := by decide +kernel
theorem dX3_requirePoint_1 : decode cX3_requirePoint 1 = .ok (.iload_n 1, 1) := by decide +kernel
theorem dX3_requirePoint_2 : decode cX3_requirePoint 2 = .ok (.invokevirtual 318, 3) := by decide +kernel
theorem dX3_requirePoint_5 : decode cX3_requirePoint 5 = .ok (.ifCond .ne 14, 3) := by decide +kernel
theorem dX3_requirePoint_8 : decode cX3_requirePoint 8 = .ok (.new 321, 3) := by decide +kernel
theorem dX3_requirePoint_11 : decode cX3_requirePoint 11 = .ok (.dup, 1) := by decide +kernel
theorem dX3_requirePoint_12 : decode cX3_requirePoint 12 = .ok (.ldc_w 323, 3) := by decide +kernel
theorem dX3_requirePoint_15 : decode cX3_requirePoint 15 = .ok (.invokespecial 325, 3) := by decide +kernel
theorem dX3_requirePoint_18 : decode cX3_requirePoint 18 = .ok (.athrow, 1) := by decide +kernel
theorem dX3_requirePoint_19 : decode cX3_requirePoint 19 = .ok (.return_, 1) := by decide +kernel
theorem dX3_requireTriple_0 : decode cX3_requireTriple 0 = .ok (.iload_n 1, 1) := by decide +kernel
theorem dX3_requireTriple_1 : decode cX3_requireTriple 1 = .ok (.ifCond .lt 14, 3) := by decide +kernel
theorem dX3_requireTriple_4 : decode cX3_requireTriple 4 = .ok (.iload_n 1, 1) := by decide +kernel
theorem dX3_requireTriple_5 : decode cX3_requireTriple 5 = .ok (.aload_n 0, 1) := by decide +kernel
theorem dX3_requireTriple_6 : decode cX3_requireTriple 6 = .ok (.getfield 10, 3) := by decide +kernel
theorem dX3_requireTriple_9 : decode cX3_requireTriple 9 = .ok (.getfield 77, 3) := by decide +kernel
theorem dX3_requireTriple_12 : decode cX3_requireTriple 12 = .ok (.if_icmp .lt 14, 3) := by decide +kernel
theorem dX3_requireTriple_15 : decode cX3_requireTriple 15 = .ok (.new 321, 3) := by decide +kernel
theorem dX3_requireTriple_18 : decode cX3_requireTriple 18 = .ok (.dup, 1) := by decide +kernel
theorem dX3_requireTriple_19 : decode cX3_requireTriple 19 = .ok (.ldc_w 326, 3) := by decide +kernel
theorem dX3_requireTriple_22 : decode cX3_requireTriple 22 = .ok (.invokespecial 325, 3) := by decide +kernel
theorem dX3_requireTriple_25 : decode cX3_requireTriple 25 = .ok (.athrow, 1) := by decide +kernel
theorem dX3_requireTriple_26 : decode cX3_requireTriple 26 = .ok (.return_, 1) := by decide +kernel
theorem dX3_requireRelation_0 : decode cX3_requireRelation 0 = .ok (.iload_n 1, 1) := by decide +kernel
theorem dX3_requireRelation_1 : decode cX3_requireRelation 1 = .ok (.ifCond .lt 14, 3) := by decide +kernel
theorem dX3_requireRelation_4 : decode cX3_requireRelation 4 = .ok (.iload_n 1, 1) := by decide +kernel
theorem dX3_requireRelation_5 : decode cX3_requireRelation 5 = .ok (.aload_n 0, 1) := by decide +kernel
theorem dX3_requireRelation_6 : decode cX3_requireRelation 6 = .ok (.getfield 10, 3) := by decide +kernel
theorem dX3_requireRelation_9 : decode cX3_requireRelation 9 = .ok (.getfield 166, 3) := by decide +kernel
theorem dX3_requireRelation_12 : decode cX3_requireRelation 12 = .ok (.if_icmp .lt 14, 3) := by decide +kernel
theorem dX3_requireRelation_15 : decode cX3_requireRelation 15 = .ok (.new 321, 3) := by decide +kernel
theorem dX3_requireRelation_18 : decode cX3_requireRelation 18 = .ok (.dup, 1) := by decide +kernel
theorem dX3_requireRelation_19 : decode cX3_requireRelation 19 = .ok (.ldc_w 328, 3) := by decide +kernel
theorem dX3_requireRelation_22 : decode cX3_requireRelation 22 = .ok (.invokespecial 325, 3) := by decide +kernel
theorem dX3_requireRelation_25 : decode cX3_requireRelation 25 = .ok (.athrow, 1) := by decide +kernel
theorem dX3_requireRelation_26 : decode cX3_requireRelation 26 = .ok (.return_, 1) := by decide +kernel
theorem dX3_areDistinct_0 : decode cX3_areDistinct 0 = .ok (.iload_n 0, 1) := by decide +kernel
theorem dX3_areDistinct_1 : decode cX3_areDistinct 1 = .ok (.iload_n 1, 1) := by decide +kernel
theorem dX3_areDistinct_2 : decode cX3_areDistinct 2 = .ok (.if_icmp .eq 17, 3) := by decide +kernel
theorem dX3_areDistinct_5 : decode cX3_areDistinct 5 = .ok (.iload_n 0, 1) := by decide +kernel
theorem dX3_areDistinct_6 : decode cX3_areDistinct 6 = .ok (.iload_n 2, 1) := by decide +kernel
theorem dX3_areDistinct_7 : decode cX3_areDistinct 7 = .ok (.if_icmp .eq 12, 3) := by decide +kernel
theorem dX3_areDistinct_10 : decode cX3_areDistinct 10 = .ok (.iload_n 1, 1) := by decide +kernel
theorem dX3_areDistinct_11 : decode cX3_areDistinct 11 = .ok (.iload_n 2, 1) := by decide +kernel
theorem dX3_areDistinct_12 : decode cX3_areDistinct 12 = .ok (.if_icmp .eq 7, 3) := by decide +kernel
theorem dX3_areDistinct_15 : decode cX3_areDistinct 15 = .ok (.iconst 1, 1) := by decide +kernel
theorem dX3_areDistinct_16 : decode cX3_areDistinct 16 = .ok (.goto 4, 3) := by decide +kernel
theorem dX3_areDistinct_19 : decode cX3_areDistinct 19 = .ok (.iconst 0, 1) := by decide +kernel
theorem dX3_areDistinct_20 : decode cX3_areDistinct 20 = .ok (.ireturn, 1) := by decide +kernel
theorem dX3_requireDistinct_0 : decode cX3_requireDistinct 0 = .ok (.iload_n 0, 1) := by decide +kernel
theorem dX3_requireDistinct_1 : decode cX3_requireDistinct 1 = .ok (.iload_n 1, 1) := by decide +kernel
theorem dX3_requireDistinct_2 : decode cX3_requireDistinct 2 = .ok (.iload_n 2, 1) := by decide +kernel
theorem dX3_requireDistinct_3 : decode cX3_requireDistinct 3 = .ok (.invokestatic 330, 3) := by decide +kernel
theorem dX3_requireDistinct_6 : decode cX3_requireDistinct 6 = .ok (.ifCond .ne 14, 3) := by decide +kernel
theorem dX3_requireDistinct_9 : decode cX3_requireDistinct 9 = .ok (.new 67, 3) := by decide +kernel
theorem dX3_requireDistinct_12 : decode cX3_requireDistinct 12 = .ok (.dup, 1) := by decide +kernel
theorem dX3_requireDistinct_13 : decode cX3_requireDistinct 13 = .ok (.ldc_w 334, 3) := by decide +kernel
theorem dX3_requireDistinct_16 : decode cX3_requireDistinct 16 = .ok (.invokespecial 71, 3) := by decide +kernel
theorem dX3_requireDistinct_19 : decode cX3_requireDistinct 19 = .ok (.athrow, 1) := by decide +kernel
theorem dX3_requireDistinct_20 : decode cX3_requireDistinct 20 = .ok (.return_, 1) := by decide +kernel
theorem dX3_orderedSign_0 : decode cX3_orderedSign 0 = .ok (.aload_n 0, 1) := by decide +kernel
theorem dX3_orderedSign_1 : decode cX3_orderedSign 1 = .ok (.getfield 10, 3) := by decide +kernel
theorem dX3_orderedSign_4 : decode cX3_orderedSign 4 = .ok (.iload_n 1, 1) := by decide +kernel
theorem dX3_orderedSign_5 : decode cX3_orderedSign 5 = .ok (.iload_n 2, 1) := by decide +kernel
theorem dX3_orderedSign_6 : decode cX3_orderedSign 6 = .ok (.iload_n 3, 1) := by decide +kernel
theorem dX3_orderedSign_7 : decode cX3_orderedSign 7 = .ok (.invokevirtual 336, 3) := by decide +kernel
theorem dX3_orderedSign_10 : decode cX3_orderedSign 10 = .ok (.istore 4, 2) := by decide +kernel
theorem dX3_orderedSign_12 : decode cX3_orderedSign 12 = .ok (.iload 4, 2) := by decide +kernel
theorem dX3_orderedSign_14 : decode cX3_orderedSign 14 = .ok (.ifCond .ne 5, 3) := by decide +kernel
theorem dX3_orderedSign_17 : decode cX3_orderedSign 17 = .ok (.iconst 0, 1) := by decide +kernel
theorem dX3_orderedSign_18 : decode cX3_orderedSign 18 = .ok (.ireturn, 1) := by decide +kernel
theorem dX3_orderedSign_19 : decode cX3_orderedSign 19 = .ok (.aload_n 0, 1) := by decide +kernel
theorem dX3_orderedSign_20 : decode cX3_orderedSign 20 = .ok (.getfield 19, 3) := by decide +kernel
theorem dX3_orderedSign_23 : decode cX3_orderedSign 23 = .ok (.getfield 129, 3) := by decide +kernel
theorem dX3_orderedSign_26 : decode cX3_orderedSign 26 = .ok (.aload_n 0, 1) := by decide +kernel
theorem dX3_orderedSign_27 : decode cX3_orderedSign 27 = .ok (.getfield 10, 3) := by decide +kernel
theorem dX3_orderedSign_30 : decode cX3_orderedSign 30 = .ok (.iload_n 1, 1) := by decide +kernel
theorem dX3_orderedSign_31 : decode cX3_orderedSign 31 = .ok (.iload_n 2, 1) := by decide +kernel
theorem dX3_orderedSign_32 : decode cX3_orderedSign 32 = .ok (.iload_n 3, 1) := by decide +kernel
theorem dX3_orderedSign_33 : decode cX3_orderedSign 33 = .ok (.invokevirtual 97, 3) := by decide +kernel
theorem dX3_orderedSign_36 : decode cX3_orderedSign 36 = .ok (.iaload, 1) := by decide +kernel
theorem dX3_orderedSign_37 : decode cX3_orderedSign 37 = .ok (.istore 5, 2) := by decide +kernel
theorem dX3_orderedSign_39 : decode cX3_orderedSign 39 = .ok (.iload 5, 2) := by decide +kernel
theorem dX3_orderedSign_41 : decode cX3_orderedSign 41 = .ok (.bipush (-100), 2) := by decide +kernel
theorem dX3_orderedSign_43 : decode cX3_orderedSign 43 = .ok (.if_icmp .ne 8, 3) := by decide +kernel
theorem dX3_orderedSign_46 : decode cX3_orderedSign 46 = .ok (.bipush (-100), 2) := by decide +kernel
theorem dX3_orderedSign_48 : decode cX3_orderedSign 48 = .ok (.goto 8, 3) := by decide +kernel
theorem dX3_orderedSign_51 : decode cX3_orderedSign 51 = .ok (.iload 4, 2) := by decide +kernel
theorem dX3_orderedSign_53 : decode cX3_orderedSign 53 = .ok (.iload 5, 2) := by decide +kernel
theorem dX3_orderedSign_55 : decode cX3_orderedSign 55 = .ok (.imul, 1) := by decide +kernel
theorem dX3_orderedSign_56 : decode cX3_orderedSign 56 = .ok (.ireturn, 1) := by decide +kernel
theorem dX3_giveOrdered_0 : decode cX3_giveOrdered 0 = .ok (.aload_n 0, 1) := by decide +kernel
theorem dX3_giveOrdered_1 : decode cX3_giveOrdered 1 = .ok (.aload_n 0, 1) := by decide +kernel
theorem dX3_giveOrdered_2 : decode cX3_giveOrdered 2 = .ok (.getfield 10, 3) := by decide +kernel
theorem dX3_giveOrdered_5 : decode cX3_giveOrdered 5 = .ok (.iload_n 1, 1) := by decide +kernel
theorem dX3_giveOrdered_6 : decode cX3_giveOrdered 6 = .ok (.iload_n 2, 1) := by decide +kernel
theorem dX3_giveOrdered_7 : decode cX3_giveOrdered 7 = .ok (.iload_n 3, 1) := by decide +kernel
theorem dX3_giveOrdered_8 : decode cX3_giveOrdered 8 = .ok (.invokevirtual 97, 3) := by decide +kernel
theorem dX3_giveOrdered_11 : decode cX3_giveOrdered 11 = .ok (.aload_n 0, 1) := by decide +kernel
theorem dX3_giveOrdered_12 : decode cX3_giveOrdered 12 = .ok (.getfield 10, 3) := by decide +kernel
theorem dX3_giveOrdered_15 : decode cX3_giveOrdered 15 = .ok (.iload_n 1, 1) := by decide +kernel
theorem dX3_giveOrdered_16 : decode cX3_giveOrdered 16 = .ok (.iload_n 2, 1) := by decide +kernel
theorem dX3_giveOrdered_17 : decode cX3_giveOrdered 17 = .ok (.iload_n 3, 1) := by decide +kernel
theorem dX3_giveOrdered_18 : decode cX3_giveOrdered 18 = .ok (.invokevirtual 336, 3) := by decide +kernel
theorem dX3_giveOrdered_21 : decode cX3_giveOrdered 21 = .ok (.iload 4, 2) := by decide +kernel
theorem dX3_giveOrdered_23 : decode cX3_giveOrdered 23 = .ok (.imul, 1) := by decide +kernel
theorem dX3_giveOrdered_24 : decode cX3_giveOrdered 24 = .ok (.invokevirtual 226, 3) := by decide +kernel
theorem dX3_giveOrdered_27 : decode cX3_giveOrdered 27 = .ok (.return_, 1) := by decide +kernel
theorem dX3_giveTriple_0 : decode cX3_giveTriple 0 = .ok (.aload_n 0, 1) := by decide +kernel
theorem dX3_giveTriple_1 : decode cX3_giveTriple 1 = .ok (.getfield 19, 3) := by decide +kernel
theorem dX3_giveTriple_4 : decode cX3_giveTriple 4 = .ok (.getfield 100, 3) := by decide +kernel
theorem dX3_giveTriple_7 : decode cX3_giveTriple 7 = .ok (.iload_n 1, 1) := by decide +kernel
theorem dX3_giveTriple_8 : decode cX3_giveTriple 8 = .ok (.iaload, 1) := by decide +kernel
theorem dX3_giveTriple_9 : decode cX3_giveTriple 9 = .ok (.iconst 1, 1) := by decide +kernel
theorem dX3_giveTriple_10 : decode cX3_giveTriple 10 = .ok (.if_icmp .ne 17, 3) := by decide +kernel
theorem dX3_giveTriple_13 : decode cX3_giveTriple 13 = .ok (.aload_n 0, 1) := by decide +kernel
theorem dX3_giveTriple_14 : decode cX3_giveTriple 14 = .ok (.getfield 19, 3) := by decide +kernel
theorem dX3_giveTriple_17 : decode cX3_giveTriple 17 = .ok (.getfield 129, 3) := by decide +kernel
theorem dX3_giveTriple_20 : decode cX3_giveTriple 20 = .ok (.iload_n 1, 1) := by decide +kernel
theorem dX3_giveTriple_21 : decode cX3_giveTriple 21 = .ok (.iaload, 1) := by decide +kernel
theorem dX3_giveTriple_22 : decode cX3_giveTriple 22 = .ok (.iload_n 2, 1) := by decide +kernel
theorem dX3_giveTriple_23 : decode cX3_giveTriple 23 = .ok (.if_icmp .ne 4, 3) := by decide +kernel
theorem dX3_giveTriple_26 : decode cX3_giveTriple 26 = .ok (.return_, 1) := by decide +kernel
theorem dX3_giveTriple_27 : decode cX3_giveTriple 27 = .ok (.aload_n 0, 1) := by decide +kernel
theorem dX3_giveTriple_28 : decode cX3_giveTriple 28 = .ok (.getfield 19, 3) := by decide +kernel
theorem dX3_giveTriple_31 : decode cX3_giveTriple 31 = .ok (.getfield 100, 3) := by decide +kernel
theorem dX3_giveTriple_34 : decode cX3_giveTriple 34 = .ok (.iload_n 1, 1) := by decide +kernel
theorem dX3_giveTriple_35 : decode cX3_giveTriple 35 = .ok (.iaload, 1) := by decide +kernel
theorem dX3_giveTriple_36 : decode cX3_giveTriple 36 = .ok (.ifCond .ne 15, 3) := by decide +kernel
theorem dX3_giveTriple_39 : decode cX3_giveTriple 39 = .ok (.aload_n 0, 1) := by decide +kernel
theorem dX3_giveTriple_40 : decode cX3_giveTriple 40 = .ok (.getfield 19, 3) := by decide +kernel
theorem dX3_giveTriple_43 : decode cX3_giveTriple 43 = .ok (.bipush (-100), 2) := by decide +kernel
theorem dX3_giveTriple_45 : decode cX3_giveTriple 45 = .ok (.putfield 175, 3) := by decide +kernel
theorem dX3_giveTriple_48 : decode cX3_giveTriple 48 = .ok (.goto 11, 3) := by decide +kernel
theorem dX3_giveTriple_51 : decode cX3_giveTriple 51 = .ok (.aload_n 0, 1) := by decide +kernel
theorem dX3_giveTriple_52 : decode cX3_giveTriple 52 = .ok (.getfield 19, 3) := by decide +kernel
theorem dX3_giveTriple_55 : decode cX3_giveTriple 55 = .ok (.invokevirtual 115, 3) := by decide +kernel
theorem dX3_giveTriple_58 : decode cX3_giveTriple 58 = .ok (.pop, 1) := by decide +kernel
theorem dX3_giveTriple_59 : decode cX3_giveTriple 59 = .ok (.aload_n 0, 1) := by decide +kernel
theorem dX3_giveTriple_60 : decode cX3_giveTriple 60 = .ok (.getfield 19, 3) := by decide +kernel
theorem dX3_giveTriple_63 : decode cX3_giveTriple 63 = .ok (.iload_n 1, 1) := by decide +kernel
theorem dX3_giveTriple_64 : decode cX3_giveTriple 64 = .ok (.iload_n 2, 1) := by decide +kernel
theorem dX3_giveTriple_65 : decode cX3_giveTriple 65 = .ok (.invokevirtual 339, 3) := by decide +kernel
theorem dX3_giveTriple_68 : decode cX3_giveTriple 68 = .ok (.return_, 1) := by decide +kernel
theorem dX3_takeAway_0 : decode cX3_takeAway 0 = .ok (.aload_n 0, 1) := by decide +kernel
theorem dX3_takeAway_1 : decode cX3_takeAway 1 = .ok (.getfield 19, 3) := by decide +kernel
theorem dX3_takeAway_4 : decode cX3_takeAway 4 = .ok (.invokevirtual 115, 3) := by decide +kernel
theorem dX3_takeAway_7 : decode cX3_takeAway 7 = .ok (.pop, 1) := by decide +kernel
theorem dX3_takeAway_8 : decode cX3_takeAway 8 = .ok (.aload_n 0, 1) := by decide +kernel
theorem dX3_takeAway_9 : decode cX3_takeAway 9 = .ok (.getfield 19, 3) := by decide +kernel
theorem dX3_takeAway_12 : decode cX3_takeAway 12 = .ok (.iload_n 1, 1) := by decide +kernel
theorem dX3_takeAway_13 : decode cX3_takeAway 13 = .ok (.invokevirtual 342, 3) := by decide +kernel
theorem dX3_takeAway_16 : decode cX3_takeAway 16 = .ok (.return_, 1) := by decide +kernel
theorem dX3_negateAll_0 : decode cX3_negateAll 0 = .ok (.iconst 0, 1) := by decide +kernel
theorem dX3_negateAll_1 : decode cX3_negateAll 1 = .ok (.istore_n 1, 1) := by decide +kernel
theorem dX3_negateAll_2 : decode cX3_negateAll 2 = .ok (.iconst 0, 1) := by decide +kernel
theorem dX3_negateAll_3 : decode cX3_negateAll 3 = .ok (.istore_n 2, 1) := by decide +kernel
theorem dX3_negateAll_4 : decode cX3_negateAll 4 = .ok (.iload_n 2, 1) := by decide +kernel
theorem dX3_negateAll_5 : decode cX3_negateAll 5 = .ok (.aload_n 0, 1) := by decide +kernel
theorem dX3_negateAll_6 : decode cX3_negateAll 6 = .ok (.getfield 10, 3) := by decide +kernel
theorem dX3_negateAll_9 : decode cX3_negateAll 9 = .ok (.getfield 77, 3) := by decide +kernel
theorem dX3_negateAll_12 : decode cX3_negateAll 12 = .ok (.if_icmp .ge 43, 3) := by decide +kernel
theorem dX3_negateAll_15 : decode cX3_negateAll 15 = .ok (.aload_n 0, 1) := by decide +kernel
theorem dX3_negateAll_16 : decode cX3_negateAll 16 = .ok (.getfield 19, 3) := by decide +kernel
theorem dX3_negateAll_19 : decode cX3_negateAll 19 = .ok (.getfield 100, 3) := by decide +kernel
theorem dX3_negateAll_22 : decode cX3_negateAll 22 = .ok (.iload_n 2, 1) := by decide +kernel
theorem dX3_negateAll_23 : decode cX3_negateAll 23 = .ok (.iaload, 1) := by decide +kernel
theorem dX3_negateAll_24 : decode cX3_negateAll 24 = .ok (.ifCond .eq 25, 3) := by decide +kernel
theorem dX3_negateAll_27 : decode cX3_negateAll 27 = .ok (.aload_n 0, 1) := by decide +kernel
theorem dX3_negateAll_28 : decode cX3_negateAll 28 = .ok (.getfield 19, 3) := by decide +kernel
theorem dX3_negateAll_31 : decode cX3_negateAll 31 = .ok (.getfield 129, 3) := by decide +kernel
theorem dX3_negateAll_34 : decode cX3_negateAll 34 = .ok (.iload_n 2, 1) := by decide +kernel
theorem dX3_negateAll_35 : decode cX3_negateAll 35 = .ok (.aload_n 0, 1) := by decide +kernel
theorem dX3_negateAll_36 : decode cX3_negateAll 36 = .ok (.getfield 19, 3) := by decide +kernel
theorem dX3_negateAll_39 : decode cX3_negateAll 39 = .ok (.getfield 129, 3) := by decide +kernel
theorem dX3_negateAll_42 : decode cX3_negateAll 42 = .ok (.iload_n 2, 1) := by decide +kernel
theorem dX3_negateAll_43 : decode cX3_negateAll 43 = .ok (.iaload, 1) := by decide +kernel
theorem dX3_negateAll_44 : decode cX3_negateAll 44 = .ok (.ineg, 1) := by decide +kernel
theorem dX3_negateAll_45 : decode cX3_negateAll 45 = .ok (.iastore, 1) := by decide +kernel
theorem dX3_negateAll_46 : decode cX3_negateAll 46 = .ok (.iinc 1 1, 3) := by decide +kernel
theorem dX3_negateAll_49 : decode cX3_negateAll 49 = .ok (.iinc 2 1, 3) := by decide +kernel
theorem dX3_negateAll_52 : decode cX3_negateAll 52 = .ok (.goto (-48), 3) := by decide +kernel
theorem dX3_negateAll_55 : decode cX3_negateAll 55 = .ok (.iload_n 1, 1) := by decide +kernel
theorem dX3_negateAll_56 : decode cX3_negateAll 56 = .ok (.ireturn, 1) := by decide +kernel
theorem dX3_partner_0 : decode cX3_partner 0 = .ok (.iload_n 0, 1) := by decide +kernel
theorem dX3_partner_1 : decode cX3_partner 1 = .ok (.iload_n 1, 1) := by decide +kernel
theorem dX3_partner_2 : decode cX3_partner 2 = .ok (.if_icmp .ne 5, 3) := by decide +kernel
theorem dX3_partner_5 : decode cX3_partner 5 = .ok (.iload_n 2, 1) := by decide +kernel
theorem dX3_partner_6 : decode cX3_partner 6 = .ok (.ireturn, 1) := by decide +kernel
theorem dX3_partner_7 : decode cX3_partner 7 = .ok (.iload_n 0, 1) := by decide +kernel
theorem dX3_partner_8 : decode cX3_partner 8 = .ok (.iload_n 2, 1) := by decide +kernel
theorem dX3_partner_9 : decode cX3_partner 9 = .ok (.if_icmp .ne 7, 3) := by decide +kernel
theorem dX3_partner_12 : decode cX3_partner 12 = .ok (.iload_n 1, 1) := by decide +kernel
theorem dX3_partner_13 : decode cX3_partner 13 = .ok (.goto 4, 3) := by decide +kernel
theorem dX3_partner_16 : decode cX3_partner 16 = .ok (.iload_n 0, 1) := by decide +kernel
theorem dX3_partner_17 : decode cX3_partner 17 = .ok (.ireturn, 1) := by decide +kernel
theorem dX3_exchangeSigns_0 : decode cX3_exchangeSigns 0 = .ok (.iconst 0, 1) := by decide +kernel
theorem dX3_exchangeSigns_1 : decode cX3_exchangeSigns 1 = .ok (.istore_n 3, 1) := by decide +kernel
theorem dX3_exchangeSigns_2 : decode cX3_exchangeSigns 2 = .ok (.iload_n 3, 1) := by decide +kernel
theorem dX3_exchangeSigns_3 : decode cX3_exchangeSigns 3 = .ok (.aload_n 0, 1) := by decide +kernel
theorem dX3_exchangeSigns_4 : decode cX3_exchangeSigns 4 = .ok (.getfield 10, 3) := by decide +kernel
theorem dX3_exchangeSigns_7 : decode cX3_exchangeSigns 7 = .ok (.getfield 77, 3) := by decide +kernel
theorem dX3_exchangeSigns_10 : decode cX3_exchangeSigns 10 = .ok (.if_icmp .ge 73, 3) := by decide +kernel
theorem dX3_exchangeSigns_13 : decode cX3_exchangeSigns 13 = .ok (.aload_n 0, 1) := by decide +kernel
theorem dX3_exchangeSigns_14 : decode cX3_exchangeSigns 14 = .ok (.getfield 10, 3) := by decide +kernel
theorem dX3_exchangeSigns_17 : decode cX3_exchangeSigns 17 = .ok (.iload_n 3, 1) := by decide +kernel
theorem dX3_exchangeSigns_18 : decode cX3_exchangeSigns 18 = .ok (.iconst 0, 1) := by decide +kernel
theorem dX3_exchangeSigns_19 : decode cX3_exchangeSigns 19 = .ok (.invokevirtual 148, 3) := by decide +kernel
theorem dX3_exchangeSigns_22 : decode cX3_exchangeSigns 22 = .ok (.iload_n 1, 1) := by decide +kernel
theorem dX3_exchangeSigns_23 : decode cX3_exchangeSigns 23 = .ok (.iload_n 2, 1) := by decide +kernel
theorem dX3_exchangeSigns_24 : decode cX3_exchangeSigns 24 = .ok (.invokestatic 345, 3) := by decide +kernel
theorem dX3_exchangeSigns_27 : decode cX3_exchangeSigns 27 = .ok (.istore 4, 2) := by decide +kernel
theorem dX3_exchangeSigns_29 : decode cX3_exchangeSigns 29 = .ok (.aload_n 0, 1) := by decide +kernel
theorem dX3_exchangeSigns_30 : decode cX3_exchangeSigns 30 = .ok (.getfield 10, 3) := by decide +kernel
theorem dX3_exchangeSigns_33 : decode cX3_exchangeSigns 33 = .ok (.iload_n 3, 1) := by decide +kernel
theorem dX3_exchangeSigns_34 : decode cX3_exchangeSigns 34 = .ok (.iconst 1, 1) := by decide +kernel
theorem dX3_exchangeSigns_35 : decode cX3_exchangeSigns 35 = .ok (.invokevirtual 148, 3) := by decide +kernel
theorem dX3_exchangeSigns_38 : decode cX3_exchangeSigns 38 = .ok (.iload_n 1, 1) := by decide +kernel
theorem dX3_exchangeSigns_39 : decode cX3_exchangeSigns 39 = .ok (.iload_n 2, 1) := by decide +kernel
theorem dX3_exchangeSigns_40 : decode cX3_exchangeSigns 40 = .ok (.invokestatic 345, 3) := by decide +kernel
theorem dX3_exchangeSigns_43 : decode cX3_exchangeSigns 43 = .ok (.istore 5, 2) := by decide +kernel
theorem dX3_exchangeSigns_45 : decode cX3_exchangeSigns 45 = .ok (.aload_n 0, 1) := by decide +kernel
theorem dX3_exchangeSigns_46 : decode cX3_exchangeSigns 46 = .ok (.getfield 10, 3) := by decide +kernel
theorem dX3_exchangeSigns_49 : decode cX3_exchangeSigns 49 = .ok (.iload_n 3, 1) := by decide +kernel
theorem dX3_exchangeSigns_50 : decode cX3_exchangeSigns 50 = .ok (.iconst 2, 1) := by decide +kernel
theorem dX3_exchangeSigns_51 : decode cX3_exchangeSigns 51 = .ok (.invokevirtual 148, 3) := by decide +kernel
theorem dX3_exchangeSigns_54 : decode cX3_exchangeSigns 54 = .ok (.iload_n 1, 1) := by decide +kernel
theorem dX3_exchangeSigns_55 : decode cX3_exchangeSigns 55 = .ok (.iload_n 2, 1) := by decide +kernel
theorem dX3_exchangeSigns_56 : decode cX3_exchangeSigns 56 = .ok (.invokestatic 345, 3) := by decide +kernel
theorem dX3_exchangeSigns_59 : decode cX3_exchangeSigns 59 = .ok (.istore 6, 2) := by decide +kernel
theorem dX3_exchangeSigns_61 : decode cX3_exchangeSigns 61 = .ok (.aload_n 0, 1) := by decide +kernel
theorem dX3_exchangeSigns_62 : decode cX3_exchangeSigns 62 = .ok (.getfield 38, 3) := by decide +kernel
theorem dX3_exchangeSigns_65 : decode cX3_exchangeSigns 65 = .ok (.iload_n 3, 1) := by decide +kernel
theorem dX3_exchangeSigns_66 : decode cX3_exchangeSigns 66 = .ok (.aload_n 0, 1) := by decide +kernel
theorem dX3_exchangeSigns_67 : decode cX3_exchangeSigns 67 = .ok (.iload 4, 2) := by decide +kernel
theorem dX3_exchangeSigns_69 : decode cX3_exchangeSigns 69 = .ok (.iload 5, 2) := by decide +kernel
theorem dX3_exchangeSigns_71 : decode cX3_exchangeSigns 71 = .ok (.iload 6, 2) := by decide +kernel
theorem dX3_exchangeSigns_73 : decode cX3_exchangeSigns 73 = .ok (.invokevirtual 89, 3) := by decide +kernel
theorem dX3_exchangeSigns_76 : decode cX3_exchangeSigns 76 = .ok (.iastore, 1) := by decide +kernel
theorem dX3_exchangeSigns_77 : decode cX3_exchangeSigns 77 = .ok (.iinc 3 1, 3) := by decide +kernel
theorem dX3_exchangeSigns_80 : decode cX3_exchangeSigns 80 = .ok (.goto (-78), 3) := by decide +kernel
theorem dX3_exchangeSigns_83 : decode cX3_exchangeSigns 83 = .ok (.iconst 0, 1) := by decide +kernel
theorem dX3_exchangeSigns_84 : decode cX3_exchangeSigns 84 = .ok (.istore_n 3, 1) := by decide +kernel
theorem dX3_exchangeSigns_85 : decode cX3_exchangeSigns 85 = .ok (.iload_n 3, 1) := by decide +kernel
theorem dX3_exchangeSigns_86 : decode cX3_exchangeSigns 86 = .ok (.aload_n 0, 1) := by decide +kernel
theorem dX3_exchangeSigns_87 : decode cX3_exchangeSigns 87 = .ok (.getfield 10, 3) := by decide +kernel
theorem dX3_exchangeSigns_90 : decode cX3_exchangeSigns 90 = .ok (.getfield 77, 3) := by decide +kernel
theorem dX3_exchangeSigns_93 : decode cX3_exchangeSigns 93 = .ok (.if_icmp .ge 45, 3) := by decide +kernel
theorem dX3_exchangeSigns_96 : decode cX3_exchangeSigns 96 = .ok (.aload_n 0, 1) := by decide +kernel
theorem dX3_exchangeSigns_97 : decode cX3_exchangeSigns 97 = .ok (.getfield 38, 3) := by decide +kernel
theorem dX3_exchangeSigns_100 : decode cX3_exchangeSigns 100 = .ok (.iload_n 3, 1) := by decide +kernel
theorem dX3_exchangeSigns_101 : decode cX3_exchangeSigns 101 = .ok (.iaload, 1) := by decide +kernel
theorem dX3_exchangeSigns_102 : decode cX3_exchangeSigns 102 = .ok (.bipush (-100), 2) := by decide +kernel
theorem dX3_exchangeSigns_104 : decode cX3_exchangeSigns 104 = .ok (.if_icmp .ne 14, 3) := by decide +kernel
theorem dX3_exchangeSigns_107 : decode cX3_exchangeSigns 107 = .ok (.aload_n 0, 1) := by decide +kernel
theorem dX3_exchangeSigns_108 : decode cX3_exchangeSigns 108 = .ok (.getfield 19, 3) := by decide +kernel
theorem dX3_exchangeSigns_111 : decode cX3_exchangeSigns 111 = .ok (.iload_n 3, 1) := by decide +kernel
theorem dX3_exchangeSigns_112 : decode cX3_exchangeSigns 112 = .ok (.invokevirtual 342, 3) := by decide +kernel
theorem dX3_exchangeSigns_115 : decode cX3_exchangeSigns 115 = .ok (.goto 17, 3) := by decide +kernel
theorem dX3_exchangeSigns_118 : decode cX3_exchangeSigns 118 = .ok (.aload_n 0, 1) := by decide +kernel
theorem dX3_exchangeSigns_119 : decode cX3_exchangeSigns 119 = .ok (.getfield 19, 3) := by decide +kernel
theorem dX3_exchangeSigns_122 : decode cX3_exchangeSigns 122 = .ok (.iload_n 3, 1) := by decide +kernel
theorem dX3_exchangeSigns_123 : decode cX3_exchangeSigns 123 = .ok (.aload_n 0, 1) := by decide +kernel
theorem dX3_exchangeSigns_124 : decode cX3_exchangeSigns 124 = .ok (.getfield 38, 3) := by decide +kernel
theorem dX3_exchangeSigns_127 : decode cX3_exchangeSigns 127 = .ok (.iload_n 3, 1) := by decide +kernel
theorem dX3_exchangeSigns_128 : decode cX3_exchangeSigns 128 = .ok (.iaload, 1) := by decide +kernel
theorem dX3_exchangeSigns_129 : decode cX3_exchangeSigns 129 = .ok (.invokevirtual 339, 3) := by decide +kernel
theorem dX3_exchangeSigns_132 : decode cX3_exchangeSigns 132 = .ok (.iinc 3 1, 3) := by decide +kernel
theorem dX3_exchangeSigns_135 : decode cX3_exchangeSigns 135 = .ok (.goto (-50), 3) := by decide +kernel
theorem dX3_exchangeSigns_138 : decode cX3_exchangeSigns 138 = .ok (.return_, 1) := by decide +kernel
theorem dX3_exchangeCoordinates_0 : decode cX3_exchangeCoordinates 0 = .ok (.aload_n 0, 1) := by decide +kernel
theorem dX3_exchangeCoordinates_1 : decode cX3_exchangeCoordinates 1 = .ok (.getfield 19, 3) := by decide +kernel
theorem dX3_exchangeCoordinates_4 : decode cX3_exchangeCoordinates 4 = .ok (.getfield 216, 3) := by decide +kernel
theorem dX3_exchangeCoordinates_7 : decode cX3_exchangeCoordinates 7 = .ok (.iload_n 1, 1) := by decide +kernel
theorem dX3_exchangeCoordinates_8 : decode cX3_exchangeCoordinates 8 = .ok (.iaload, 1) := by decide +kernel
theorem dX3_exchangeCoordinates_9 : decode cX3_exchangeCoordinates 9 = .ok (.istore_n 3, 1) := by decide +kernel
theorem dX3_exchangeCoordinates_10 : decode cX3_exchangeCoordinates 10 = .ok (.aload_n 0, 1) := by decide +kernel
theorem dX3_exchangeCoordinates_11 : decode cX3_exchangeCoordinates 11 = .ok (.getfield 19, 3) := by decide +kernel
theorem dX3_exchangeCoordinates_14 : decode cX3_exchangeCoordinates 14 = .ok (.getfield 219, 3) := by decide +kernel
theorem dX3_exchangeCoordinates_17 : decode cX3_exchangeCoordinates 17 = .ok (.iload_n 1, 1) := by decide +kernel
theorem dX3_exchangeCoordinates_18 : decode cX3_exchangeCoordinates 18 = .ok (.iaload, 1) := by decide +kernel
theorem dX3_exchangeCoordinates_19 : decode cX3_exchangeCoordinates 19 = .ok (.istore 4, 2) := by decide +kernel
theorem dX3_exchangeCoordinates_21 : decode cX3_exchangeCoordinates 21 = .ok (.aload_n 0, 1) := by decide +kernel
theorem dX3_exchangeCoordinates_22 : decode cX3_exchangeCoordinates 22 = .ok (.getfield 19, 3) := by decide +kernel
theorem dX3_exchangeCoordinates_25 : decode cX3_exchangeCoordinates 25 = .ok (.getfield 216, 3) := by decide +kernel
theorem dX3_exchangeCoordinates_28 : decode cX3_exchangeCoordinates 28 = .ok (.iload_n 1, 1) := by decide +kernel
theorem dX3_exchangeCoordinates_29 : decode cX3_exchangeCoordinates 29 = .ok (.aload_n 0, 1) := by decide +kernel
theorem dX3_exchangeCoordinates_30 : decode cX3_exchangeCoordinates 30 = .ok (.getfield 19, 3) := by decide +kernel
theorem dX3_exchangeCoordinates_33 : decode cX3_exchangeCoordinates 33 = .ok (.getfield 216, 3) := by decide +kernel
theorem dX3_exchangeCoordinates_36 : decode cX3_exchangeCoordinates 36 = .ok (.iload_n 2, 1) := by decide +kernel
theorem dX3_exchangeCoordinates_37 : decode cX3_exchangeCoordinates 37 = .ok (.iaload, 1) := by decide +kernel
theorem dX3_exchangeCoordinates_38 : decode cX3_exchangeCoordinates 38 = .ok (.iastore, 1) := by decide +kernel
theorem dX3_exchangeCoordinates_39 : decode cX3_exchangeCoordinates 39 = .ok (.aload_n 0, 1) := by decide +kernel
theorem dX3_exchangeCoordinates_40 : decode cX3_exchangeCoordinates 40 = .ok (.getfield 19, 3) := by decide +kernel
theorem dX3_exchangeCoordinates_43 : decode cX3_exchangeCoordinates 43 = .ok (.getfield 219, 3) := by decide +kernel
theorem dX3_exchangeCoordinates_46 : decode cX3_exchangeCoordinates 46 = .ok (.iload_n 1, 1) := by decide +kernel
theorem dX3_exchangeCoordinates_47 : decode cX3_exchangeCoordinates 47 = .ok (.aload_n 0, 1) := by decide +kernel
theorem dX3_exchangeCoordinates_48 : decode cX3_exchangeCoordinates 48 = .ok (.getfield 19, 3) := by decide +kernel
theorem dX3_exchangeCoordinates_51 : decode cX3_exchangeCoordinates 51 = .ok (.getfield 219, 3) := by decide +kernel
theorem dX3_exchangeCoordinates_54 : decode cX3_exchangeCoordinates 54 = .ok (.iload_n 2, 1) := by decide +kernel
theorem dX3_exchangeCoordinates_55 : decode cX3_exchangeCoordinates 55 = .ok (.iaload, 1) := by decide +kernel
theorem dX3_exchangeCoordinates_56 : decode cX3_exchangeCoordinates 56 = .ok (.iastore, 1) := by decide +kernel
theorem dX3_exchangeCoordinates_57 : decode cX3_exchangeCoordinates 57 = .ok (.aload_n 0, 1) := by decide +kernel
theorem dX3_exchangeCoordinates_58 : decode cX3_exchangeCoordinates 58 = .ok (.getfield 19, 3) := by decide +kernel
theorem dX3_exchangeCoordinates_61 : decode cX3_exchangeCoordinates 61 = .ok (.getfield 216, 3) := by decide +kernel
theorem dX3_exchangeCoordinates_64 : decode cX3_exchangeCoordinates 64 = .ok (.iload_n 2, 1) := by decide +kernel
theorem dX3_exchangeCoordinates_65 : decode cX3_exchangeCoordinates 65 = .ok (.iload_n 3, 1) := by decide +kernel
theorem dX3_exchangeCoordinates_66 : decode cX3_exchangeCoordinates 66 = .ok (.iastore, 1) := by decide +kernel
theorem dX3_exchangeCoordinates_67 : decode cX3_exchangeCoordinates 67 = .ok (.aload_n 0, 1) := by decide +kernel
theorem dX3_exchangeCoordinates_68 : decode cX3_exchangeCoordinates 68 = .ok (.getfield 19, 3) := by decide +kernel
theorem dX3_exchangeCoordinates_71 : decode cX3_exchangeCoordinates 71 = .ok (.getfield 219, 3) := by decide +kernel
theorem dX3_exchangeCoordinates_74 : decode cX3_exchangeCoordinates 74 = .ok (.iload_n 2, 1) := by decide +kernel
theorem dX3_exchangeCoordinates_75 : decode cX3_exchangeCoordinates 75 = .ok (.iload 4, 2) := by decide +kernel
theorem dX3_exchangeCoordinates_77 : decode cX3_exchangeCoordinates 77 = .ok (.iastore, 1) := by decide +kernel
theorem dX3_exchangeCoordinates_78 : decode cX3_exchangeCoordinates 78 = .ok (.return_, 1) := by decide +kernel
theorem dX3_deriveAll_0 : decode cX3_deriveAll 0 = .ok (.aload_n 0, 1) := by decide +kernel
theorem dX3_deriveAll_1 : decode cX3_deriveAll 1 = .ok (.getfield 19, 3) := by decide +kernel
theorem dX3_deriveAll_4 : decode cX3_deriveAll 4 = .ok (.iconst 2, 1) := by decide +kernel
theorem dX3_deriveAll_5 : decode cX3_deriveAll 5 = .ok (.aload_n 0, 1) := by decide +kernel
theorem dX3_deriveAll_6 : decode cX3_deriveAll 6 = .ok (.getfield 10, 3) := by decide +kernel
theorem dX3_deriveAll_9 : decode cX3_deriveAll 9 = .ok (.getfield 77, 3) := by decide +kernel
theorem dX3_deriveAll_12 : decode cX3_deriveAll 12 = .ok (.invokevirtual 141, 3) := by decide +kernel
theorem dX3_deriveAll_15 : decode cX3_deriveAll 15 = .ok (.istore_n 1, 1) := by decide +kernel
theorem dX3_deriveAll_16 : decode cX3_deriveAll 16 = .ok (.aload_n 0, 1) := by decide +kernel
theorem dX3_deriveAll_17 : decode cX3_deriveAll 17 = .ok (.getfield 19, 3) := by decide +kernel
theorem dX3_deriveAll_20 : decode cX3_deriveAll 20 = .ok (.bipush (-100), 2) := by decide +kernel
theorem dX3_deriveAll_22 : decode cX3_deriveAll 22 = .ok (.putfield 175, 3) := by decide +kernel
theorem dX3_deriveAll_25 : decode cX3_deriveAll 25 = .ok (.iconst 1, 1) := by decide +kernel
theorem dX3_deriveAll_26 : decode cX3_deriveAll 26 = .ok (.istore_n 2, 1) := by decide +kernel
theorem dX3_deriveAll_27 : decode cX3_deriveAll 27 = .ok (.iconst 0, 1) := by decide +kernel
theorem dX3_deriveAll_28 : decode cX3_deriveAll 28 = .ok (.istore_n 3, 1) := by decide +kernel
theorem dX3_deriveAll_29 : decode cX3_deriveAll 29 = .ok (.iload_n 2, 1) := by decide +kernel
theorem dX3_deriveAll_30 : decode cX3_deriveAll 30 = .ok (.ifCond .eq 20, 3) := by decide +kernel
theorem dX3_deriveAll_33 : decode cX3_deriveAll 33 = .ok (.iload_n 3, 1) := by decide +kernel
theorem dX3_deriveAll_34 : decode cX3_deriveAll 34 = .ok (.bipush 56, 2) := by decide +kernel
theorem dX3_deriveAll_36 : decode cX3_deriveAll 36 = .ok (.if_icmp .gt 14, 3) := by decide +kernel
theorem dX3_deriveAll_39 : decode cX3_deriveAll 39 = .ok (.aload_n 0, 1) := by decide +kernel
theorem dX3_deriveAll_40 : decode cX3_deriveAll 40 = .ok (.invokevirtual 348, 3) := by decide +kernel
theorem dX3_deriveAll_43 : decode cX3_deriveAll 43 = .ok (.istore_n 2, 1) := by decide +kernel
theorem dX3_deriveAll_44 : decode cX3_deriveAll 44 = .ok (.iinc 3 1, 3) := by decide +kernel
theorem dX3_deriveAll_47 : decode cX3_deriveAll 47 = .ok (.goto (-18), 3) := by decide +kernel
theorem dX3_deriveAll_50 : decode cX3_deriveAll 50 = .ok (.aload_n 0, 1) := by decide +kernel
theorem dX3_deriveAll_51 : decode cX3_deriveAll 51 = .ok (.getfield 19, 3) := by decide +kernel
theorem dX3_deriveAll_54 : decode cX3_deriveAll 54 = .ok (.iconst 2, 1) := by decide +kernel
theorem dX3_deriveAll_55 : decode cX3_deriveAll 55 = .ok (.aload_n 0, 1) := by decide +kernel
theorem dX3_deriveAll_56 : decode cX3_deriveAll 56 = .ok (.getfield 10, 3) := by decide +kernel
theorem dX3_deriveAll_59 : decode cX3_deriveAll 59 = .ok (.getfield 77, 3) := by decide +kernel
theorem dX3_deriveAll_62 : decode cX3_deriveAll 62 = .ok (.invokevirtual 141, 3) := by decide +kernel
theorem dX3_deriveAll_65 : decode cX3_deriveAll 65 = .ok (.iload_n 1, 1) := by decide +kernel
theorem dX3_deriveAll_66 : decode cX3_deriveAll 66 = .ok (.isub, 1) := by decide +kernel
theorem dX3_deriveAll_67 : decode cX3_deriveAll 67 = .ok (.ireturn, 1) := by decide +kernel
theorem dX3_deriveOnce_0 : decode cX3_deriveOnce 0 = .ok (.iconst 0, 1) := by decide +kernel
theorem dX3_deriveOnce_1 : decode cX3_deriveOnce 1 = .ok (.istore_n 1, 1) := by decide +kernel
theorem dX3_deriveOnce_2 : decode cX3_deriveOnce 2 = .ok (.iconst 0, 1) := by decide +kernel
theorem dX3_deriveOnce_3 : decode cX3_deriveOnce 3 = .ok (.istore_n 2, 1) := by decide +kernel
theorem dX3_deriveOnce_4 : decode cX3_deriveOnce 4 = .ok (.iload_n 2, 1) := by decide +kernel
theorem dX3_deriveOnce_5 : decode cX3_deriveOnce 5 = .ok (.aload_n 0, 1) := by decide +kernel
theorem dX3_deriveOnce_6 : decode cX3_deriveOnce 6 = .ok (.getfield 10, 3) := by decide +kernel
theorem dX3_deriveOnce_9 : decode cX3_deriveOnce 9 = .ok (.getfield 166, 3) := by decide +kernel
theorem dX3_deriveOnce_12 : decode cX3_deriveOnce 12 = .ok (.if_icmp .ge 95, 3) := by decide +kernel
theorem dX3_deriveOnce_15 : decode cX3_deriveOnce 15 = .ok (.aload_n 0, 1) := by decide +kernel
theorem dX3_deriveOnce_16 : decode cX3_deriveOnce 16 = .ok (.getfield 10, 3) := by decide +kernel
theorem dX3_deriveOnce_19 : decode cX3_deriveOnce 19 = .ok (.iload_n 2, 1) := by decide +kernel
theorem dX3_deriveOnce_20 : decode cX3_deriveOnce 20 = .ok (.aload_n 0, 1) := by decide +kernel
theorem dX3_deriveOnce_21 : decode cX3_deriveOnce 21 = .ok (.getfield 19, 3) := by decide +kernel
theorem dX3_deriveOnce_24 : decode cX3_deriveOnce 24 = .ok (.getfield 129, 3) := by decide +kernel
theorem dX3_deriveOnce_27 : decode cX3_deriveOnce 27 = .ok (.invokevirtual 184, 3) := by decide +kernel
theorem dX3_deriveOnce_30 : decode cX3_deriveOnce 30 = .ok (.istore_n 3, 1) := by decide +kernel
theorem dX3_deriveOnce_31 : decode cX3_deriveOnce 31 = .ok (.iload_n 3, 1) := by decide +kernel
theorem dX3_deriveOnce_32 : decode cX3_deriveOnce 32 = .ok (.iconst 1, 1) := by decide +kernel
theorem dX3_deriveOnce_33 : decode cX3_deriveOnce 33 = .ok (.if_icmp .ne 24, 3) := by decide +kernel
theorem dX3_deriveOnce_36 : decode cX3_deriveOnce 36 = .ok (.aload_n 0, 1) := by decide +kernel
theorem dX3_deriveOnce_37 : decode cX3_deriveOnce 37 = .ok (.iload_n 2, 1) := by decide +kernel
theorem dX3_deriveOnce_38 : decode cX3_deriveOnce 38 = .ok (.invokevirtual 352, 3) := by decide +kernel
theorem dX3_deriveOnce_41 : decode cX3_deriveOnce 41 = .ok (.ifCond .ne 7, 3) := by decide +kernel
theorem dX3_deriveOnce_44 : decode cX3_deriveOnce 44 = .ok (.iload_n 1, 1) := by decide +kernel
theorem dX3_deriveOnce_45 : decode cX3_deriveOnce 45 = .ok (.ifCond .eq 7, 3) := by decide +kernel
theorem dX3_deriveOnce_48 : decode cX3_deriveOnce 48 = .ok (.iconst 1, 1) := by decide +kernel
theorem dX3_deriveOnce_49 : decode cX3_deriveOnce 49 = .ok (.goto 4, 3) := by decide +kernel
theorem dX3_deriveOnce_52 : decode cX3_deriveOnce 52 = .ok (.iconst 0, 1) := by decide +kernel
theorem dX3_deriveOnce_53 : decode cX3_deriveOnce 53 = .ok (.istore_n 1, 1) := by decide +kernel
theorem dX3_deriveOnce_54 : decode cX3_deriveOnce 54 = .ok (.goto 33, 3) := by decide +kernel
theorem dX3_deriveOnce_57 : decode cX3_deriveOnce 57 = .ok (.iload_n 3, 1) := by decide +kernel
theorem dX3_deriveOnce_58 : decode cX3_deriveOnce 58 = .ok (.ifCond .ne 29, 3) := by decide +kernel
theorem dX3_deriveOnce_61 : decode cX3_deriveOnce 61 = .ok (.aload_n 0, 1) := by decide +kernel
theorem dX3_deriveOnce_62 : decode cX3_deriveOnce 62 = .ok (.getfield 10, 3) := by decide +kernel
theorem dX3_deriveOnce_65 : decode cX3_deriveOnce 65 = .ok (.iload_n 2, 1) := by decide +kernel
theorem dX3_deriveOnce_66 : decode cX3_deriveOnce 66 = .ok (.aload_n 0, 1) := by decide +kernel
theorem dX3_deriveOnce_67 : decode cX3_deriveOnce 67 = .ok (.getfield 19, 3) := by decide +kernel
theorem dX3_deriveOnce_70 : decode cX3_deriveOnce 70 = .ok (.getfield 129, 3) := by decide +kernel
theorem dX3_deriveOnce_73 : decode cX3_deriveOnce 73 = .ok (.invokevirtual 188, 3) := by decide +kernel
theorem dX3_deriveOnce_76 : decode cX3_deriveOnce 76 = .ok (.ifCond .ge 11, 3) := by decide +kernel
theorem dX3_deriveOnce_79 : decode cX3_deriveOnce 79 = .ok (.aload_n 0, 1) := by decide +kernel
theorem dX3_deriveOnce_80 : decode cX3_deriveOnce 80 = .ok (.getfield 19, 3) := by decide +kernel
theorem dX3_deriveOnce_83 : decode cX3_deriveOnce 83 = .ok (.iload_n 2, 1) := by decide +kernel
theorem dX3_deriveOnce_84 : decode cX3_deriveOnce 84 = .ok (.putfield 175, 3) := by decide +kernel
theorem dX3_deriveOnce_87 : decode cX3_deriveOnce 87 = .ok (.aload_n 0, 1) := by decide +kernel
theorem dX3_deriveOnce_88 : decode cX3_deriveOnce 88 = .ok (.getfield 19, 3) := by decide +kernel
theorem dX3_deriveOnce_91 : decode cX3_deriveOnce 91 = .ok (.getfield 175, 3) := by decide +kernel
theorem dX3_deriveOnce_94 : decode cX3_deriveOnce 94 = .ok (.bipush (-100), 2) := by decide +kernel
theorem dX3_deriveOnce_96 : decode cX3_deriveOnce 96 = .ok (.if_icmp .eq 5, 3) := by decide +kernel
theorem dX3_deriveOnce_99 : decode cX3_deriveOnce 99 = .ok (.iconst 0, 1) := by decide +kernel
theorem dX3_deriveOnce_100 : decode cX3_deriveOnce 100 = .ok (.ireturn, 1) := by decide +kernel
theorem dX3_deriveOnce_101 : decode cX3_deriveOnce 101 = .ok (.iinc 2 1, 3) := by decide +kernel
theorem dX3_deriveOnce_104 : decode cX3_deriveOnce 104 = .ok (.goto (-100), 3) := by decide +kernel
theorem dX3_deriveOnce_107 : decode cX3_deriveOnce 107 = .ok (.iload_n 1, 1) := by decide +kernel
theorem dX3_deriveOnce_108 : decode cX3_deriveOnce 108 = .ok (.ireturn, 1) := by decide +kernel
theorem dX3_deriveFrom_0 : decode cX3_deriveFrom 0 = .ok (.aload_n 0, 1) := by decide +kernel
theorem dX3_deriveFrom_1 : decode cX3_deriveFrom 1 = .ok (.getfield 10, 3) := by decide +kernel
theorem dX3_deriveFrom_4 : decode cX3_deriveFrom 4 = .ok (.iload_n 1, 1) := by decide +kernel
theorem dX3_deriveFrom_5 : decode cX3_deriveFrom 5 = .ok (.aload_n 0, 1) := by decide +kernel
theorem dX3_deriveFrom_6 : decode cX3_deriveFrom 6 = .ok (.getfield 19, 3) := by decide +kernel
theorem dX3_deriveFrom_9 : decode cX3_deriveFrom 9 = .ok (.getfield 129, 3) := by decide +kernel
theorem dX3_deriveFrom_12 : decode cX3_deriveFrom 12 = .ok (.invokevirtual 355, 3) := by decide +kernel
theorem dX3_deriveFrom_15 : decode cX3_deriveFrom 15 = .ok (.istore_n 2, 1) := by decide +kernel
theorem dX3_deriveFrom_16 : decode cX3_deriveFrom 16 = .ok (.iconst 0, 1) := by decide +kernel
theorem dX3_deriveFrom_17 : decode cX3_deriveFrom 17 = .ok (.istore_n 3, 1) := by decide +kernel
theorem dX3_deriveFrom_18 : decode cX3_deriveFrom 18 = .ok (.bipush (-100), 2) := by decide +kernel
theorem dX3_deriveFrom_20 : decode cX3_deriveFrom 20 = .ok (.istore 4, 2) := by decide +kernel
theorem dX3_deriveFrom_22 : decode cX3_deriveFrom 22 = .ok (.aload_n 0, 1) := by decide +kernel
theorem dX3_deriveFrom_23 : decode cX3_deriveFrom 23 = .ok (.getfield 19, 3) := by decide +kernel
theorem dX3_deriveFrom_26 : decode cX3_deriveFrom 26 = .ok (.getfield 111, 3) := by decide +kernel
theorem dX3_deriveFrom_29 : decode cX3_deriveFrom 29 = .ok (.ifCond .eq 7, 3) := by decide +kernel
theorem dX3_deriveFrom_32 : decode cX3_deriveFrom 32 = .ok (.iconst 2, 1) := by decide +kernel
theorem dX3_deriveFrom_33 : decode cX3_deriveFrom 33 = .ok (.goto 4, 3) := by decide +kernel
theorem dX3_deriveFrom_36 : decode cX3_deriveFrom 36 = .ok (.iconst 1, 1) := by decide +kernel
theorem dX3_deriveFrom_37 : decode cX3_deriveFrom 37 = .ok (.istore 5, 2) := by decide +kernel
theorem dX3_deriveFrom_39 : decode cX3_deriveFrom 39 = .ok (.iconst (-1), 1) := by decide +kernel
theorem dX3_deriveFrom_40 : decode cX3_deriveFrom 40 = .ok (.istore 6, 2) := by decide +kernel
theorem dX3_deriveFrom_42 : decode cX3_deriveFrom 42 = .ok (.iload 6, 2) := by decide +kernel
theorem dX3_deriveFrom_44 : decode cX3_deriveFrom 44 = .ok (.iconst 1, 1) := by decide +kernel
theorem dX3_deriveFrom_45 : decode cX3_deriveFrom 45 = .ok (.if_icmp .gt 49, 3) := by decide +kernel
theorem dX3_deriveFrom_48 : decode cX3_deriveFrom 48 = .ok (.aload_n 0, 1) := by decide +kernel
theorem dX3_deriveFrom_49 : decode cX3_deriveFrom 49 = .ok (.getfield 19, 3) := by decide +kernel
theorem dX3_deriveFrom_52 : decode cX3_deriveFrom 52 = .ok (.getfield 129, 3) := by decide +kernel
theorem dX3_deriveFrom_55 : decode cX3_deriveFrom 55 = .ok (.iload_n 2, 1) := by decide +kernel
theorem dX3_deriveFrom_56 : decode cX3_deriveFrom 56 = .ok (.iload 6, 2) := by decide +kernel
theorem dX3_deriveFrom_58 : decode cX3_deriveFrom 58 = .ok (.iastore, 1) := by decide +kernel
theorem dX3_deriveFrom_59 : decode cX3_deriveFrom 59 = .ok (.aload_n 0, 1) := by decide +kernel
theorem dX3_deriveFrom_60 : decode cX3_deriveFrom 60 = .ok (.getfield 10, 3) := by decide +kernel
theorem dX3_deriveFrom_63 : decode cX3_deriveFrom 63 = .ok (.iload_n 1, 1) := by decide +kernel
theorem dX3_deriveFrom_64 : decode cX3_deriveFrom 64 = .ok (.aload_n 0, 1) := by decide +kernel
theorem dX3_deriveFrom_65 : decode cX3_deriveFrom 65 = .ok (.getfield 19, 3) := by decide +kernel
theorem dX3_deriveFrom_68 : decode cX3_deriveFrom 68 = .ok (.getfield 129, 3) := by decide +kernel
theorem dX3_deriveFrom_71 : decode cX3_deriveFrom 71 = .ok (.invokevirtual 188, 3) := by decide +kernel
theorem dX3_deriveFrom_74 : decode cX3_deriveFrom 74 = .ok (.ifCond .le 10, 3) := by decide +kernel
theorem dX3_deriveFrom_77 : decode cX3_deriveFrom 77 = .ok (.iinc 3 1, 3) := by decide +kernel
theorem dX3_deriveFrom_80 : decode cX3_deriveFrom 80 = .ok (.iload 6, 2) := by decide +kernel
theorem dX3_deriveFrom_82 : decode cX3_deriveFrom 82 = .ok (.istore 4, 2) := by decide +kernel
theorem dX3_deriveFrom_84 : decode cX3_deriveFrom 84 = .ok (.iload 6, 2) := by decide +kernel
theorem dX3_deriveFrom_86 : decode cX3_deriveFrom 86 = .ok (.iload 5, 2) := by decide +kernel
theorem dX3_deriveFrom_88 : decode cX3_deriveFrom 88 = .ok (.iadd, 1) := by decide +kernel
theorem dX3_deriveFrom_89 : decode cX3_deriveFrom 89 = .ok (.istore 6, 2) := by decide +kernel
theorem dX3_deriveFrom_91 : decode cX3_deriveFrom 91 = .ok (.goto (-49), 3) := by decide +kernel
theorem dX3_deriveFrom_94 : decode cX3_deriveFrom 94 = .ok (.aload_n 0, 1) := by decide +kernel
theorem dX3_deriveFrom_95 : decode cX3_deriveFrom 95 = .ok (.getfield 19, 3) := by decide +kernel
theorem dX3_deriveFrom_98 : decode cX3_deriveFrom 98 = .ok (.getfield 129, 3) := by decide +kernel
theorem dX3_deriveFrom_101 : decode cX3_deriveFrom 101 = .ok (.iload_n 2, 1) := by decide +kernel
theorem dX3_deriveFrom_102 : decode cX3_deriveFrom 102 = .ok (.bipush (-100), 2) := by decide +kernel
theorem dX3_deriveFrom_104 : decode cX3_deriveFrom 104 = .ok (.iastore, 1) := by decide +kernel
theorem dX3_deriveFrom_105 : decode cX3_deriveFrom 105 = .ok (.iload_n 3, 1) := by decide +kernel
theorem dX3_deriveFrom_106 : decode cX3_deriveFrom 106 = .ok (.ifCond .ne 11, 3) := by decide +kernel
theorem dX3_deriveFrom_109 : decode cX3_deriveFrom 109 = .ok (.aload_n 0, 1) := by decide +kernel
theorem dX3_deriveFrom_110 : decode cX3_deriveFrom 110 = .ok (.getfield 19, 3) := by decide +kernel
theorem dX3_deriveFrom_113 : decode cX3_deriveFrom 113 = .ok (.iload_n 1, 1) := by decide +kernel
theorem dX3_deriveFrom_114 : decode cX3_deriveFrom 114 = .ok (.putfield 175, 3) := by decide +kernel
theorem dX3_deriveFrom_117 : decode cX3_deriveFrom 117 = .ok (.iload_n 3, 1) := by decide +kernel
theorem dX3_deriveFrom_118 : decode cX3_deriveFrom 118 = .ok (.iconst 1, 1) := by decide +kernel
theorem dX3_deriveFrom_119 : decode cX3_deriveFrom 119 = .ok (.if_icmp .eq 5, 3) := by decide +kernel
theorem dX3_deriveFrom_122 : decode cX3_deriveFrom 122 = .ok (.iconst 0, 1) := by decide +kernel
theorem dX3_deriveFrom_123 : decode cX3_deriveFrom 123 = .ok (.ireturn, 1) := by decide +kernel
theorem dX3_deriveFrom_124 : decode cX3_deriveFrom 124 = .ok (.aload_n 0, 1) := by decide +kernel
theorem dX3_deriveFrom_125 : decode cX3_deriveFrom 125 = .ok (.getfield 19, 3) := by decide +kernel
theorem dX3_deriveFrom_128 : decode cX3_deriveFrom 128 = .ok (.iconst 2, 1) := by decide +kernel
theorem dX3_deriveFrom_129 : decode cX3_deriveFrom 129 = .ok (.aload_n 0, 1) := by decide +kernel
theorem dX3_deriveFrom_130 : decode cX3_deriveFrom 130 = .ok (.getfield 10, 3) := by decide +kernel
theorem dX3_deriveFrom_133 : decode cX3_deriveFrom 133 = .ok (.getfield 77, 3) := by decide +kernel
theorem dX3_deriveFrom_136 : decode cX3_deriveFrom 136 = .ok (.invokevirtual 141, 3) := by decide +kernel
theorem dX3_deriveFrom_139 : decode cX3_deriveFrom 139 = .ok (.iconst 1, 1) := by decide +kernel
theorem dX3_deriveFrom_140 : decode cX3_deriveFrom 140 = .ok (.iadd, 1) := by decide +kernel
theorem dX3_deriveFrom_141 : decode cX3_deriveFrom 141 = .ok (.istore 6, 2) := by decide +kernel
theorem dX3_deriveFrom_143 : decode cX3_deriveFrom 143 = .ok (.aload_n 0, 1) := by decide +kernel
theorem dX3_deriveFrom_144 : decode cX3_deriveFrom 144 = .ok (.getfield 19, 3) := by decide +kernel
theorem dX3_deriveFrom_147 : decode cX3_deriveFrom 147 = .ok (.iload_n 2, 1) := by decide +kernel
theorem dX3_deriveFrom_148 : decode cX3_deriveFrom 148 = .ok (.iload 4, 2) := by decide +kernel
theorem dX3_deriveFrom_150 : decode cX3_deriveFrom 150 = .ok (.iload_n 1, 1) := by decide +kernel
theorem dX3_deriveFrom_151 : decode cX3_deriveFrom 151 = .ok (.iload 6, 2) := by decide +kernel
theorem dX3_deriveFrom_153 : decode cX3_deriveFrom 153 = .ok (.aload_n 0, 1) := by decide +kernel
theorem dX3_deriveFrom_154 : decode cX3_deriveFrom 154 = .ok (.iload_n 1, 1) := by decide +kernel
theorem dX3_deriveFrom_155 : decode cX3_deriveFrom 155 = .ok (.invokevirtual 191, 3) := by decide +kernel
theorem dX3_deriveFrom_158 : decode cX3_deriveFrom 158 = .ok (.invokevirtual 358, 3) := by decide +kernel
theorem dX3_deriveFrom_161 : decode cX3_deriveFrom 161 = .ok (.iconst 1, 1) := by decide +kernel
theorem dX3_deriveFrom_162 : decode cX3_deriveFrom 162 = .ok (.ireturn, 1) := by decide +kernel
theorem dX3_reasonsOf_0 : decode cX3_reasonsOf 0 = .ok (.lconst 0, 1) := by decide +kernel
theorem dX3_reasonsOf_1 : decode cX3_reasonsOf 1 = .ok (.lstore_n 2, 1) := by decide +kernel
theorem dX3_reasonsOf_2 : decode cX3_reasonsOf 2 = .ok (.iconst 0, 1) := by decide +kernel
theorem dX3_reasonsOf_3 : decode cX3_reasonsOf 3 = .ok (.istore 4, 2) := by decide +kernel
theorem dX3_reasonsOf_5 : decode cX3_reasonsOf 5 = .ok (.iload 4, 2) := by decide +kernel
theorem dX3_reasonsOf_7 : decode cX3_reasonsOf 7 = .ok (.bipush 6, 2) := by decide +kernel
theorem dX3_reasonsOf_9 : decode cX3_reasonsOf 9 = .ok (.if_icmp .ge 30, 3) := by decide +kernel
theorem dX3_reasonsOf_12 : decode cX3_reasonsOf 12 = .ok (.lload_n 2, 1) := by decide +kernel
theorem dX3_reasonsOf_13 : decode cX3_reasonsOf 13 = .ok (.aload_n 0, 1) := by decide +kernel
theorem dX3_reasonsOf_14 : decode cX3_reasonsOf 14 = .ok (.getfield 19, 3) := by decide +kernel
theorem dX3_reasonsOf_17 : decode cX3_reasonsOf 17 = .ok (.getfield 159, 3) := by decide +kernel
theorem dX3_reasonsOf_20 : decode cX3_reasonsOf 20 = .ok (.aload_n 0, 1) := by decide +kernel
theorem dX3_reasonsOf_21 : decode cX3_reasonsOf 21 = .ok (.getfield 10, 3) := by decide +kernel
theorem dX3_reasonsOf_24 : decode cX3_reasonsOf 24 = .ok (.iload_n 1, 1) := by decide +kernel
theorem dX3_reasonsOf_25 : decode cX3_reasonsOf 25 = .ok (.iload 4, 2) := by decide +kernel
theorem dX3_reasonsOf_27 : decode cX3_reasonsOf 27 = .ok (.invokevirtual 362, 3) := by decide +kernel
theorem dX3_reasonsOf_30 : decode cX3_reasonsOf 30 = .ok (.laload, 1) := by decide +kernel
theorem dX3_reasonsOf_31 : decode cX3_reasonsOf 31 = .ok (.lor, 1) := by decide +kernel
theorem dX3_reasonsOf_32 : decode cX3_reasonsOf 32 = .ok (.lstore_n 2, 1) := by decide +kernel
theorem dX3_reasonsOf_33 : decode cX3_reasonsOf 33 = .ok (.iinc 4 1, 3) := by decide +kernel
theorem dX3_reasonsOf_36 : decode cX3_reasonsOf 36 = .ok (.goto (-31), 3) := by decide +kernel
theorem dX3_reasonsOf_39 : decode cX3_reasonsOf 39 = .ok (.lload_n 2, 1) := by decide +kernel
theorem dX3_reasonsOf_40 : decode cX3_reasonsOf 40 = .ok (.lreturn, 1) := by decide +kernel
theorem dX3_countComplete_0 : decode cX3_countComplete 0 = .ok (.iconst 0, 1) := by decide +kernel
theorem dX3_countComplete_1 : decode cX3_countComplete 1 = .ok (.istore_n 1, 1) := by decide +kernel
theorem dX3_countComplete_2 : decode cX3_countComplete 2 = .ok (.iconst 0, 1) := by decide +kernel
theorem dX3_countComplete_3 : decode cX3_countComplete 3 = .ok (.istore_n 2, 1) := by decide +kernel
theorem dX3_countComplete_4 : decode cX3_countComplete 4 = .ok (.iload_n 2, 1) := by decide +kernel
theorem dX3_countComplete_5 : decode cX3_countComplete 5 = .ok (.aload_n 0, 1) := by decide +kernel
theorem dX3_countComplete_6 : decode cX3_countComplete 6 = .ok (.getfield 10, 3) := by decide +kernel
theorem dX3_countComplete_9 : decode cX3_countComplete 9 = .ok (.getfield 166, 3) := by decide +kernel
theorem dX3_countComplete_12 : decode cX3_countComplete 12 = .ok (.if_icmp .ge 30, 3) := by decide +kernel
theorem dX3_countComplete_15 : decode cX3_countComplete 15 = .ok (.aload_n 0, 1) := by decide +kernel
theorem dX3_countComplete_16 : decode cX3_countComplete 16 = .ok (.getfield 10, 3) := by decide +kernel
theorem dX3_countComplete_19 : decode cX3_countComplete 19 = .ok (.iload_n 2, 1) := by decide +kernel
theorem dX3_countComplete_20 : decode cX3_countComplete 20 = .ok (.aload_n 0, 1) := by decide +kernel
theorem dX3_countComplete_21 : decode cX3_countComplete 21 = .ok (.getfield 19, 3) := by decide +kernel
theorem dX3_countComplete_24 : decode cX3_countComplete 24 = .ok (.getfield 129, 3) := by decide +kernel
theorem dX3_countComplete_27 : decode cX3_countComplete 27 = .ok (.invokevirtual 184, 3) := by decide +kernel
theorem dX3_countComplete_30 : decode cX3_countComplete 30 = .ok (.ifCond .ne 6, 3) := by decide +kernel
theorem dX3_countComplete_33 : decode cX3_countComplete 33 = .ok (.iinc 1 1, 3) := by decide +kernel
theorem dX3_countComplete_36 : decode cX3_countComplete 36 = .ok (.iinc 2 1, 3) := by decide +kernel
theorem dX3_countComplete_39 : decode cX3_countComplete 39 = .ok (.goto (-35), 3) := by decide +kernel
theorem dX3_countComplete_42 : decode cX3_countComplete 42 = .ok (.iload_n 1, 1) := by decide +kernel
theorem dX3_countComplete_43 : decode cX3_countComplete 43 = .ok (.ireturn, 1) := by decide +kernel
theorem dX3_countViolated_0 : decode cX3_countViolated 0 = .ok (.iconst 0, 1) := by decide +kernel
theorem dX3_countViolated_1 : decode cX3_countViolated 1 = .ok (.istore_n 1, 1) := by decide +kernel
theorem dX3_countViolated_2 : decode cX3_countViolated 2 = .ok (.iconst 0, 1) := by decide +kernel
theorem dX3_countViolated_3 : decode cX3_countViolated 3 = .ok (.istore_n 2, 1) := by decide +kernel
theorem dX3_countViolated_4 : decode cX3_countViolated 4 = .ok (.iload_n 2, 1) := by decide +kernel
theorem dX3_countViolated_5 : decode cX3_countViolated 5 = .ok (.aload_n 0, 1) := by decide +kernel
theorem dX3_countViolated_6 : decode cX3_countViolated 6 = .ok (.getfield 10, 3) := by decide +kernel
theorem dX3_countViolated_9 : decode cX3_countViolated 9 = .ok (.getfield 166, 3) := by decide +kernel
theorem dX3_countViolated_12 : decode cX3_countViolated 12 = .ok (.if_icmp .ge 30, 3) := by decide +kernel
theorem dX3_countViolated_15 : decode cX3_countViolated 15 = .ok (.aload_n 0, 1) := by decide +kernel
theorem dX3_countViolated_16 : decode cX3_countViolated 16 = .ok (.getfield 10, 3) := by decide +kernel
theorem dX3_countViolated_19 : decode cX3_countViolated 19 = .ok (.iload_n 2, 1) := by decide +kernel
theorem dX3_countViolated_20 : decode cX3_countViolated 20 = .ok (.aload_n 0, 1) := by decide +kernel
theorem dX3_countViolated_21 : decode cX3_countViolated 21 = .ok (.getfield 19, 3) := by decide +kernel
theorem dX3_countViolated_24 : decode cX3_countViolated 24 = .ok (.getfield 129, 3) := by decide +kernel
theorem dX3_countViolated_27 : decode cX3_countViolated 27 = .ok (.invokevirtual 188, 3) := by decide +kernel
theorem dX3_countViolated_30 : decode cX3_countViolated 30 = .ok (.ifCond .ge 6, 3) := by decide +kernel
theorem dX3_countViolated_33 : decode cX3_countViolated 33 = .ok (.iinc 1 1, 3) := by decide +kernel
theorem dX3_countViolated_36 : decode cX3_countViolated 36 = .ok (.iinc 2 1, 3) := by decide +kernel
theorem dX3_countViolated_39 : decode cX3_countViolated 39 = .ok (.goto (-35), 3) := by decide +kernel
theorem dX3_countViolated_42 : decode cX3_countViolated 42 = .ok (.iload_n 1, 1) := by decide +kernel
theorem dX3_countViolated_43 : decode cX3_countViolated 43 = .ok (.ireturn, 1) := by decide +kernel
theorem dX3_waysFrom_0 : decode cX3_waysFrom 0 = .ok (.iload_n 0, 1) := by decide +kernel
theorem dX3_waysFrom_1 : decode cX3_waysFrom 1 = .ok (.iload_n 1, 1) := by decide +kernel
theorem dX3_waysFrom_2 : decode cX3_waysFrom 2 = .ok (.if_icmp .ge 9, 3) := by decide +kernel
theorem dX3_waysFrom_5 : decode cX3_waysFrom 5 = .ok (.iload_n 0, 1) := by decide +kernel
theorem dX3_waysFrom_6 : decode cX3_waysFrom 6 = .ok (.bipush 10, 2) := by decide +kernel
theorem dX3_waysFrom_8 : decode cX3_waysFrom 8 = .ok (.if_icmp .lt 5, 3) := by decide +kernel
theorem dX3_waysFrom_11 : decode cX3_waysFrom 11 = .ok (.iconst 1, 1) := by decide +kernel
theorem dX3_waysFrom_12 : decode cX3_waysFrom 12 = .ok (.ireturn, 1) := by decide +kernel
theorem dX3_waysFrom_13 : decode cX3_waysFrom 13 = .ok (.aload_n 2, 1) := by decide +kernel
theorem dX3_waysFrom_14 : decode cX3_waysFrom 14 = .ok (.iload_n 0, 1) := by decide +kernel
theorem dX3_waysFrom_15 : decode cX3_waysFrom 15 = .ok (.iaload, 1) := by decide +kernel
theorem dX3_waysFrom_16 : decode cX3_waysFrom 16 = .ok (.istore 5, 2) := by decide +kernel
theorem dX3_waysFrom_18 : decode cX3_waysFrom 18 = .ok (.iconst 0, 1) := by decide +kernel
theorem dX3_waysFrom_19 : decode cX3_waysFrom 19 = .ok (.istore 6, 2) := by decide +kernel
theorem dX3_waysFrom_21 : decode cX3_waysFrom 21 = .ok (.iconst (-1), 1) := by decide +kernel
theorem dX3_waysFrom_22 : decode cX3_waysFrom 22 = .ok (.istore 7, 2) := by decide +kernel
theorem dX3_waysFrom_24 : decode cX3_waysFrom 24 = .ok (.iload 7, 2) := by decide +kernel
theorem dX3_waysFrom_26 : decode cX3_waysFrom 26 = .ok (.iconst 1, 1) := by decide +kernel
theorem dX3_waysFrom_27 : decode cX3_waysFrom 27 = .ok (.if_icmp .gt 42, 3) := by decide +kernel
theorem dX3_waysFrom_30 : decode cX3_waysFrom 30 = .ok (.aload_n 3, 1) := by decide +kernel
theorem dX3_waysFrom_31 : decode cX3_waysFrom 31 = .ok (.iload 5, 2) := by decide +kernel
theorem dX3_waysFrom_33 : decode cX3_waysFrom 33 = .ok (.iload 7, 2) := by decide +kernel
theorem dX3_waysFrom_35 : decode cX3_waysFrom 35 = .ok (.iastore, 1) := by decide +kernel
theorem dX3_waysFrom_36 : decode cX3_waysFrom 36 = .ok (.aload 4, 2) := by decide +kernel
theorem dX3_waysFrom_38 : decode cX3_waysFrom 38 = .ok (.iload 5, 2) := by decide +kernel
theorem dX3_waysFrom_40 : decode cX3_waysFrom 40 = .ok (.aload_n 3, 1) := by decide +kernel
theorem dX3_waysFrom_41 : decode cX3_waysFrom 41 = .ok (.invokevirtual 365, 3) := by decide +kernel
theorem dX3_waysFrom_44 : decode cX3_waysFrom 44 = .ok (.ifCond .ne 19, 3) := by decide +kernel
theorem dX3_waysFrom_47 : decode cX3_waysFrom 47 = .ok (.iload 6, 2) := by decide +kernel
theorem dX3_waysFrom_49 : decode cX3_waysFrom 49 = .ok (.iload_n 0, 1) := by decide +kernel
theorem dX3_waysFrom_50 : decode cX3_waysFrom 50 = .ok (.iconst 1, 1) := by decide +kernel
theorem dX3_waysFrom_51 : decode cX3_waysFrom 51 = .ok (.iadd, 1) := by decide +kernel
theorem dX3_waysFrom_52 : decode cX3_waysFrom 52 = .ok (.iload_n 1, 1) := by decide +kernel
theorem dX3_waysFrom_53 : decode cX3_waysFrom 53 = .ok (.aload_n 2, 1) := by decide +kernel
theorem dX3_waysFrom_54 : decode cX3_waysFrom 54 = .ok (.aload_n 3, 1) := by decide +kernel
theorem dX3_waysFrom_55 : decode cX3_waysFrom 55 = .ok (.aload 4, 2) := by decide +kernel
theorem dX3_waysFrom_57 : decode cX3_waysFrom 57 = .ok (.invokestatic 197, 3) := by decide +kernel
theorem dX3_waysFrom_60 : decode cX3_waysFrom 60 = .ok (.iadd, 1) := by decide +kernel
theorem dX3_waysFrom_61 : decode cX3_waysFrom 61 = .ok (.istore 6, 2) := by decide +kernel
theorem dX3_waysFrom_63 : decode cX3_waysFrom 63 = .ok (.iinc 7 2, 3) := by decide +kernel
theorem dX3_waysFrom_66 : decode cX3_waysFrom 66 = .ok (.goto (-42), 3) := by decide +kernel
theorem dX3_waysFrom_69 : decode cX3_waysFrom 69 = .ok (.aload_n 3, 1) := by decide +kernel
theorem dX3_waysFrom_70 : decode cX3_waysFrom 70 = .ok (.iload 5, 2) := by decide +kernel
theorem dX3_waysFrom_72 : decode cX3_waysFrom 72 = .ok (.bipush (-100), 2) := by decide +kernel
theorem dX3_waysFrom_74 : decode cX3_waysFrom 74 = .ok (.iastore, 1) := by decide +kernel
theorem dX3_waysFrom_75 : decode cX3_waysFrom 75 = .ok (.iload 6, 2) := by decide +kernel
theorem dX3_waysFrom_77 : decode cX3_waysFrom 77 = .ok (.ireturn, 1) := by decide +kernel
theorem dX3_borders_0 : decode cX3_borders 0 = .ok (.iconst 0, 1) := by decide +kernel
theorem dX3_borders_1 : decode cX3_borders 1 = .ok (.istore_n 3, 1) := by decide +kernel
theorem dX3_borders_2 : decode cX3_borders 2 = .ok (.iconst 0, 1) := by decide +kernel
theorem dX3_borders_3 : decode cX3_borders 3 = .ok (.istore 4, 2) := by decide +kernel
theorem dX3_borders_5 : decode cX3_borders 5 = .ok (.iconst 0, 1) := by decide +kernel
theorem dX3_borders_6 : decode cX3_borders 6 = .ok (.istore 5, 2) := by decide +kernel
theorem dX3_borders_8 : decode cX3_borders 8 = .ok (.iload 5, 2) := by decide +kernel
theorem dX3_borders_10 : decode cX3_borders 10 = .ok (.aload_n 0, 1) := by decide +kernel
theorem dX3_borders_11 : decode cX3_borders 11 = .ok (.getfield 10, 3) := by decide +kernel
theorem dX3_borders_14 : decode cX3_borders 14 = .ok (.getfield 163, 3) := by decide +kernel
theorem dX3_borders_17 : decode cX3_borders 17 = .ok (.if_icmp .ge 62, 3) := by decide +kernel
theorem dX3_borders_20 : decode cX3_borders 20 = .ok (.aload_n 0, 1) := by decide +kernel
theorem dX3_borders_21 : decode cX3_borders 21 = .ok (.iload_n 1, 1) := by decide +kernel
theorem dX3_borders_22 : decode cX3_borders 22 = .ok (.iload_n 2, 1) := by decide +kernel
theorem dX3_borders_23 : decode cX3_borders 23 = .ok (.iload 5, 2) := by decide +kernel
theorem dX3_borders_25 : decode cX3_borders 25 = .ok (.invokevirtual 89, 3) := by decide +kernel
theorem dX3_borders_28 : decode cX3_borders 28 = .ok (.istore 6, 2) := by decide +kernel
theorem dX3_borders_30 : decode cX3_borders 30 = .ok (.iload 6, 2) := by decide +kernel
theorem dX3_borders_32 : decode cX3_borders 32 = .ok (.bipush (-100), 2) := by decide +kernel
theorem dX3_borders_34 : decode cX3_borders 34 = .ok (.if_icmp .ne 5, 3) := by decide +kernel
theorem dX3_borders_37 : decode cX3_borders 37 = .ok (.iconst 0, 1) := by decide +kernel
theorem dX3_borders_38 : decode cX3_borders 38 = .ok (.ireturn, 1) := by decide +kernel
theorem dX3_borders_39 : decode cX3_borders 39 = .ok (.iload_n 3, 1) := by decide +kernel
theorem dX3_borders_40 : decode cX3_borders 40 = .ok (.ifCond .ne 9, 3) := by decide +kernel
theorem dX3_borders_43 : decode cX3_borders 43 = .ok (.iload 6, 2) := by decide +kernel
theorem dX3_borders_45 : decode cX3_borders 45 = .ok (.iconst 1, 1) := by decide +kernel
theorem dX3_borders_46 : decode cX3_borders 46 = .ok (.if_icmp .ne 7, 3) := by decide +kernel
theorem dX3_borders_49 : decode cX3_borders 49 = .ok (.iconst 1, 1) := by decide +kernel
theorem dX3_borders_50 : decode cX3_borders 50 = .ok (.goto 4, 3) := by decide +kernel
theorem dX3_borders_53 : decode cX3_borders 53 = .ok (.iconst 0, 1) := by decide +kernel
theorem dX3_borders_54 : decode cX3_borders 54 = .ok (.istore_n 3, 1) := by decide +kernel
theorem dX3_borders_55 : decode cX3_borders 55 = .ok (.iload 4, 2) := by decide +kernel
theorem dX3_borders_57 : decode cX3_borders 57 = .ok (.ifCond .ne 9, 3) := by decide +kernel
theorem dX3_borders_60 : decode cX3_borders 60 = .ok (.iload 6, 2) := by decide +kernel
theorem dX3_borders_62 : decode cX3_borders 62 = .ok (.iconst (-1), 1) := by decide +kernel
theorem dX3_borders_63 : decode cX3_borders 63 = .ok (.if_icmp .ne 7, 3) := by decide +kernel
theorem dX3_borders_66 : decode cX3_borders 66 = .ok (.iconst 1, 1) := by decide +kernel
theorem dX3_borders_67 : decode cX3_borders 67 = .ok (.goto 4, 3) := by decide +kernel
theorem dX3_borders_70 : decode cX3_borders 70 = .ok (.iconst 0, 1) := by decide +kernel
theorem dX3_borders_71 : decode cX3_borders 71 = .ok (.istore 4, 2) := by decide +kernel
theorem dX3_borders_73 : decode cX3_borders 73 = .ok (.iinc 5 1, 3) := by decide +kernel
theorem dX3_borders_76 : decode cX3_borders 76 = .ok (.goto (-68), 3) := by decide +kernel
theorem dX3_borders_79 : decode cX3_borders 79 = .ok (.iload_n 3, 1) := by decide +kernel
theorem dX3_borders_80 : decode cX3_borders 80 = .ok (.iload 4, 2) := by decide +kernel
theorem dX3_borders_82 : decode cX3_borders 82 = .ok (.if_icmp .eq 7, 3) := by decide +kernel
theorem dX3_borders_85 : decode cX3_borders 85 = .ok (.iconst 1, 1) := by decide +kernel
theorem dX3_borders_86 : decode cX3_borders 86 = .ok (.goto 4, 3) := by decide +kernel
theorem dX3_borders_89 : decode cX3_borders 89 = .ok (.iconst 0, 1) := by decide +kernel
theorem dX3_borders_90 : decode cX3_borders 90 = .ok (.ireturn, 1) := by decide +kernel
theorem dX3_lineMask_0 : decode cX3_lineMask 0 = .ok (.iconst 0, 1) := by decide +kernel
theorem dX3_lineMask_1 : decode cX3_lineMask 1 = .ok (.istore_n 3, 1) := by decide +kernel
theorem dX3_lineMask_2 : decode cX3_lineMask 2 = .ok (.iconst 0, 1) := by decide +kernel
theorem dX3_lineMask_3 : decode cX3_lineMask 3 = .ok (.istore 4, 2) := by decide +kernel
theorem dX3_lineMask_5 : decode cX3_lineMask 5 = .ok (.iload 4, 2) := by decide +kernel
theorem dX3_lineMask_7 : decode cX3_lineMask 7 = .ok (.aload_n 0, 1) := by decide +kernel
theorem dX3_lineMask_8 : decode cX3_lineMask 8 = .ok (.getfield 10, 3) := by decide +kernel
theorem dX3_lineMask_11 : decode cX3_lineMask 11 = .ok (.getfield 163, 3) := by decide +kernel
theorem dX3_lineMask_14 : decode cX3_lineMask 14 = .ok (.if_icmp .ge 27, 3) := by decide +kernel
theorem dX3_lineMask_17 : decode cX3_lineMask 17 = .ok (.aload_n 0, 1) := by decide +kernel
theorem dX3_lineMask_18 : decode cX3_lineMask 18 = .ok (.iload_n 1, 1) := by decide +kernel
theorem dX3_lineMask_19 : decode cX3_lineMask 19 = .ok (.iload_n 2, 1) := by decide +kernel
theorem dX3_lineMask_20 : decode cX3_lineMask 20 = .ok (.iload 4, 2) := by decide +kernel
theorem dX3_lineMask_22 : decode cX3_lineMask 22 = .ok (.invokevirtual 89, 3) := by decide +kernel
theorem dX3_lineMask_25 : decode cX3_lineMask 25 = .ok (.ifCond .ne 10, 3) := by decide +kernel
theorem dX3_lineMask_28 : decode cX3_lineMask 28 = .ok (.iload_n 3, 1) := by decide +kernel
theorem dX3_lineMask_29 : decode cX3_lineMask 29 = .ok (.iconst 1, 1) := by decide +kernel
theorem dX3_lineMask_30 : decode cX3_lineMask 30 = .ok (.iload 4, 2) := by decide +kernel
theorem dX3_lineMask_32 : decode cX3_lineMask 32 = .ok (.ishl, 1) := by decide +kernel
theorem dX3_lineMask_33 : decode cX3_lineMask 33 = .ok (.ior, 1) := by decide +kernel
theorem dX3_lineMask_34 : decode cX3_lineMask 34 = .ok (.istore_n 3, 1) := by decide +kernel
theorem dX3_lineMask_35 : decode cX3_lineMask 35 = .ok (.iinc 4 1, 3) := by decide +kernel
theorem dX3_lineMask_38 : decode cX3_lineMask 38 = .ok (.goto (-33), 3) := by decide +kernel
theorem dX3_lineMask_41 : decode cX3_lineMask 41 = .ok (.iload_n 3, 1) := by decide +kernel
theorem dX3_lineMask_42 : decode cX3_lineMask 42 = .ok (.ireturn, 1) := by decide +kernel
theorem dX3_isListed_0 : decode cX3_isListed 0 = .ok (.iconst 0, 1) := by decide +kernel
theorem dX3_isListed_1 : decode cX3_isListed 1 = .ok (.istore_n 3, 1) := by decide +kernel
theorem dX3_isListed_2 : decode cX3_isListed 2 = .ok (.iload_n 3, 1) := by decide +kernel
theorem dX3_isListed_3 : decode cX3_isListed 3 = .ok (.iload_n 2, 1) := by decide +kernel
theorem dX3_isListed_4 : decode cX3_isListed 4 = .ok (.if_icmp .ge 27, 3) := by decide +kernel
theorem dX3_isListed_7 : decode cX3_isListed 7 = .ok (.iload_n 3, 1) := by decide +kernel
theorem dX3_isListed_8 : decode cX3_isListed 8 = .ok (.bipush 28, 2) := by decide +kernel
theorem dX3_isListed_10 : decode cX3_isListed 10 = .ok (.if_icmp .ge 21, 3) := by decide +kernel
theorem dX3_isListed_13 : decode cX3_isListed 13 = .ok (.aload_n 0, 1) := by decide +kernel
theorem dX3_isListed_14 : decode cX3_isListed 14 = .ok (.getfield 45, 3) := by decide +kernel
theorem dX3_isListed_17 : decode cX3_isListed 17 = .ok (.iload_n 3, 1) := by decide +kernel
theorem dX3_isListed_18 : decode cX3_isListed 18 = .ok (.iaload, 1) := by decide +kernel
theorem dX3_isListed_19 : decode cX3_isListed 19 = .ok (.iload_n 1, 1) := by decide +kernel
theorem dX3_isListed_20 : decode cX3_isListed 20 = .ok (.if_icmp .ne 5, 3) := by decide +kernel
theorem dX3_isListed_23 : decode cX3_isListed 23 = .ok (.iconst 1, 1) := by decide +kernel
theorem dX3_isListed_24 : decode cX3_isListed 24 = .ok (.ireturn, 1) := by decide +kernel
theorem dX3_isListed_25 : decode cX3_isListed 25 = .ok (.iinc 3 1, 3) := by decide +kernel
theorem dX3_isListed_28 : decode cX3_isListed 28 = .ok (.goto (-26), 3) := by decide +kernel
theorem dX3_isListed_31 : decode cX3_isListed 31 = .ok (.iconst 0, 1) := by decide +kernel
theorem dX3_isListed_32 : decode cX3_isListed 32 = .ok (.ireturn, 1) := by decide +kernel
theorem dX3_mismatchesAt_0 : decode cX3_mismatchesAt 0 = .ok (.iconst 0, 1) := by decide +kernel
theorem dX3_mismatchesAt_1 : decode cX3_mismatchesAt 1 = .ok (.istore_n 3, 1) := by decide +kernel
theorem dX3_mismatchesAt_2 : decode cX3_mismatchesAt 2 = .ok (.iconst 0, 1) := by decide +kernel
theorem dX3_mismatchesAt_3 : decode cX3_mismatchesAt 3 = .ok (.istore 4, 2) := by decide +kernel
theorem dX3_mismatchesAt_5 : decode cX3_mismatchesAt 5 = .ok (.iload 4, 2) := by decide +kernel
theorem dX3_mismatchesAt_7 : decode cX3_mismatchesAt 7 = .ok (.aload_n 0, 1) := by decide +kernel
theorem dX3_mismatchesAt_8 : decode cX3_mismatchesAt 8 = .ok (.getfield 10, 3) := by decide +kernel
theorem dX3_mismatchesAt_11 : decode cX3_mismatchesAt 11 = .ok (.getfield 77, 3) := by decide +kernel
theorem dX3_mismatchesAt_14 : decode cX3_mismatchesAt 14 = .ok (.if_icmp .ge 60, 3) := by decide +kernel
theorem dX3_mismatchesAt_17 : decode cX3_mismatchesAt 17 = .ok (.aload_n 0, 1) := by decide +kernel
theorem dX3_mismatchesAt_18 : decode cX3_mismatchesAt 18 = .ok (.getfield 19, 3) := by decide +kernel
theorem dX3_mismatchesAt_21 : decode cX3_mismatchesAt 21 = .ok (.getfield 100, 3) := by decide +kernel
theorem dX3_mismatchesAt_24 : decode cX3_mismatchesAt 24 = .ok (.iload 4, 2) := by decide +kernel
theorem dX3_mismatchesAt_26 : decode cX3_mismatchesAt 26 = .ok (.iaload, 1) := by decide +kernel
theorem dX3_mismatchesAt_27 : decode cX3_mismatchesAt 27 = .ok (.ifCond .eq 41, 3) := by decide +kernel
theorem dX3_mismatchesAt_30 : decode cX3_mismatchesAt 30 = .ok (.aload_n 0, 1) := by decide +kernel
theorem dX3_mismatchesAt_31 : decode cX3_mismatchesAt 31 = .ok (.getfield 10, 3) := by decide +kernel
theorem dX3_mismatchesAt_34 : decode cX3_mismatchesAt 34 = .ok (.iload 4, 2) := by decide +kernel
theorem dX3_mismatchesAt_36 : decode cX3_mismatchesAt 36 = .ok (.aload_n 1, 1) := by decide +kernel
theorem dX3_mismatchesAt_37 : decode cX3_mismatchesAt 37 = .ok (.aload_n 2, 1) := by decide +kernel
theorem dX3_mismatchesAt_38 : decode cX3_mismatchesAt 38 = .ok (.invokevirtual 222, 3) := by decide +kernel
theorem dX3_mismatchesAt_41 : decode cX3_mismatchesAt 41 = .ok (.istore 5, 2) := by decide +kernel
theorem dX3_mismatchesAt_43 : decode cX3_mismatchesAt 43 = .ok (.iload 5, 2) := by decide +kernel
theorem dX3_mismatchesAt_45 : decode cX3_mismatchesAt 45 = .ok (.bipush (-100), 2) := by decide +kernel
theorem dX3_mismatchesAt_47 : decode cX3_mismatchesAt 47 = .ok (.if_icmp .eq 21, 3) := by decide +kernel
theorem dX3_mismatchesAt_50 : decode cX3_mismatchesAt 50 = .ok (.iload 5, 2) := by decide +kernel
theorem dX3_mismatchesAt_52 : decode cX3_mismatchesAt 52 = .ok (.aload_n 0, 1) := by decide +kernel
theorem dX3_mismatchesAt_53 : decode cX3_mismatchesAt 53 = .ok (.getfield 19, 3) := by decide +kernel
theorem dX3_mismatchesAt_56 : decode cX3_mismatchesAt 56 = .ok (.getfield 129, 3) := by decide +kernel
theorem dX3_mismatchesAt_59 : decode cX3_mismatchesAt 59 = .ok (.iload 4, 2) := by decide +kernel
theorem dX3_mismatchesAt_61 : decode cX3_mismatchesAt 61 = .ok (.iaload, 1) := by decide +kernel
theorem dX3_mismatchesAt_62 : decode cX3_mismatchesAt 62 = .ok (.if_icmp .eq 6, 3) := by decide +kernel
theorem dX3_mismatchesAt_65 : decode cX3_mismatchesAt 65 = .ok (.iinc 3 1, 3) := by decide +kernel
theorem dX3_mismatchesAt_68 : decode cX3_mismatchesAt 68 = .ok (.iinc 4 1, 3) := by decide +kernel
theorem dX3_mismatchesAt_71 : decode cX3_mismatchesAt 71 = .ok (.goto (-66), 3) := by decide +kernel
theorem dX3_mismatchesAt_74 : decode cX3_mismatchesAt 74 = .ok (.iload_n 3, 1) := by decide +kernel
theorem dX3_mismatchesAt_75 : decode cX3_mismatchesAt 75 = .ok (.ireturn, 1) := by decide +kernel
theorem dX3_nextRandom_0 : decode cX3_nextRandom 0 = .ok (.ldc2_w 369, 3) := by decide +kernel
theorem dX3_nextRandom_3 : decode cX3_nextRandom 3 = .ok (.lload_n 0, 1) := by decide +kernel
theorem dX3_nextRandom_4 : decode cX3_nextRandom 4 = .ok (.lmul, 1) := by decide +kernel
theorem dX3_nextRandom_5 : decode cX3_nextRandom 5 = .ok (.ldc2_w 371, 3) := by decide +kernel
theorem dX3_nextRandom_8 : decode cX3_nextRandom 8 = .ok (.ladd, 1) := by decide +kernel
theorem dX3_nextRandom_9 : decode cX3_nextRandom 9 = .ok (.ldc2_w 373, 3) := by decide +kernel
theorem dX3_nextRandom_12 : decode cX3_nextRandom 12 = .ok (.lrem, 1) := by decide +kernel
theorem dX3_nextRandom_13 : decode cX3_nextRandom 13 = .ok (.lreturn, 1) := by decide +kernel
theorem dX3_randomCoordinate_0 : decode cX3_randomCoordinate 0 = .ok (.lload_n 0, 1) := by decide +kernel
theorem dX3_randomCoordinate_1 : decode cX3_randomCoordinate 1 = .ok (.ldc2_w 375, 3) := by decide +kernel
theorem dX3_randomCoordinate_4 : decode cX3_randomCoordinate 4 = .ok (.ldiv, 1) := by decide +kernel
theorem dX3_randomCoordinate_5 : decode cX3_randomCoordinate 5 = .ok (.ldc2_w 377, 3) := by decide +kernel
theorem dX3_randomCoordinate_8 : decode cX3_randomCoordinate 8 = .ok (.iload_n 2, 1) := by decide +kernel
theorem dX3_randomCoordinate_9 : decode cX3_randomCoordinate 9 = .ok (.i2l, 1) := by decide +kernel
theorem dX3_randomCoordinate_10 : decode cX3_randomCoordinate 10 = .ok (.lmul, 1) := by decide +kernel
theorem dX3_randomCoordinate_11 : decode cX3_randomCoordinate 11 = .ok (.lconst 1, 1) := by decide +kernel
theorem dX3_randomCoordinate_12 : decode cX3_randomCoordinate 12 = .ok (.ladd, 1) := by decide +kernel
theorem dX3_randomCoordinate_13 : decode cX3_randomCoordinate 13 = .ok (.lrem, 1) := by decide +kernel
theorem dX3_randomCoordinate_14 : decode cX3_randomCoordinate 14 = .ok (.l2i, 1) := by decide +kernel
theorem dX3_randomCoordinate_15 : decode cX3_randomCoordinate 15 = .ok (.iload_n 2, 1) := by decide +kernel
theorem dX3_randomCoordinate_16 : decode cX3_randomCoordinate 16 = .ok (.isub, 1) := by decide +kernel
theorem dX3_randomCoordinate_17 : decode cX3_randomCoordinate 17 = .ok (.ireturn, 1) := by decide +kernel
theorem dX3_tryPlacement_0 : decode cX3_tryPlacement 0 = .ok (.lload_n 1, 1) := by decide +kernel
theorem dX3_tryPlacement_1 : decode cX3_tryPlacement 1 = .ok (.lstore 4, 2) := by decide +kernel
theorem dX3_tryPlacement_3 : decode cX3_tryPlacement 3 = .ok (.iconst 0, 1) := by decide +kernel
theorem dX3_tryPlacement_4 : decode cX3_tryPlacement 4 = .ok (.istore 6, 2) := by decide +kernel
theorem dX3_tryPlacement_6 : decode cX3_tryPlacement 6 = .ok (.iload 6, 2) := by decide +kernel
theorem dX3_tryPlacement_8 : decode cX3_tryPlacement 8 = .ok (.aload_n 0, 1) := by decide +kernel
theorem dX3_tryPlacement_9 : decode cX3_tryPlacement 9 = .ok (.getfield 10, 3) := by decide +kernel
theorem dX3_tryPlacement_12 : decode cX3_tryPlacement 12 = .ok (.getfield 163, 3) := by decide +kernel
theorem dX3_tryPlacement_15 : decode cX3_tryPlacement 15 = .ok (.if_icmp .ge 49, 3) := by decide +kernel
theorem dX3_tryPlacement_18 : decode cX3_tryPlacement 18 = .ok (.lload 4, 2) := by decide +kernel
theorem dX3_tryPlacement_20 : decode cX3_tryPlacement 20 = .ok (.invokestatic 379, 3) := by decide +kernel
theorem dX3_tryPlacement_23 : decode cX3_tryPlacement 23 = .ok (.lstore 4, 2) := by decide +kernel
theorem dX3_tryPlacement_25 : decode cX3_tryPlacement 25 = .ok (.aload_n 0, 1) := by decide +kernel
theorem dX3_tryPlacement_26 : decode cX3_tryPlacement 26 = .ok (.getfield 48, 3) := by decide +kernel
theorem dX3_tryPlacement_29 : decode cX3_tryPlacement 29 = .ok (.iload 6, 2) := by decide +kernel
theorem dX3_tryPlacement_31 : decode cX3_tryPlacement 31 = .ok (.lload 4, 2) := by decide +kernel
theorem dX3_tryPlacement_33 : decode cX3_tryPlacement 33 = .ok (.iload_n 3, 1) := by decide +kernel
theorem dX3_tryPlacement_34 : decode cX3_tryPlacement 34 = .ok (.invokestatic 383, 3) := by decide +kernel
theorem dX3_tryPlacement_37 : decode cX3_tryPlacement 37 = .ok (.iastore, 1) := by decide +kernel
theorem dX3_tryPlacement_38 : decode cX3_tryPlacement 38 = .ok (.lload 4, 2) := by decide +kernel
theorem dX3_tryPlacement_40 : decode cX3_tryPlacement 40 = .ok (.invokestatic 379, 3) := by decide +kernel
theorem dX3_tryPlacement_43 : decode cX3_tryPlacement 43 = .ok (.lstore 4, 2) := by decide +kernel
theorem dX3_tryPlacement_45 : decode cX3_tryPlacement 45 = .ok (.aload_n 0, 1) := by decide +kernel
theorem dX3_tryPlacement_46 : decode cX3_tryPlacement 46 = .ok (.getfield 51, 3) := by decide +kernel
theorem dX3_tryPlacement_49 : decode cX3_tryPlacement 49 = .ok (.iload 6, 2) := by decide +kernel
theorem dX3_tryPlacement_51 : decode cX3_tryPlacement 51 = .ok (.lload 4, 2) := by decide +kernel
theorem dX3_tryPlacement_53 : decode cX3_tryPlacement 53 = .ok (.iload_n 3, 1) := by decide +kernel
theorem dX3_tryPlacement_54 : decode cX3_tryPlacement 54 = .ok (.invokestatic 383, 3) := by decide +kernel
theorem dX3_tryPlacement_57 : decode cX3_tryPlacement 57 = .ok (.iastore, 1) := by decide +kernel
theorem dX3_tryPlacement_58 : decode cX3_tryPlacement 58 = .ok (.iinc 6 1, 3) := by decide +kernel
theorem dX3_tryPlacement_61 : decode cX3_tryPlacement 61 = .ok (.goto (-55), 3) := by decide +kernel
theorem dX3_tryPlacement_64 : decode cX3_tryPlacement 64 = .ok (.lload 4, 2) := by decide +kernel
theorem dX3_tryPlacement_66 : decode cX3_tryPlacement 66 = .ok (.lreturn, 1) := by decide +kernel
theorem dX3_copyPoints_0 : decode cX3_copyPoints 0 = .ok (.aload_n 1, 1) := by decide +kernel
theorem dX3_copyPoints_1 : decode cX3_copyPoints 1 = .ok (.iconst 0, 1) := by decide +kernel
theorem dX3_copyPoints_2 : decode cX3_copyPoints 2 = .ok (.aload_n 3, 1) := by decide +kernel
theorem dX3_copyPoints_3 : decode cX3_copyPoints 3 = .ok (.iconst 0, 1) := by decide +kernel
theorem dX3_copyPoints_4 : decode cX3_copyPoints 4 = .ok (.aload_n 0, 1) := by decide +kernel
theorem dX3_copyPoints_5 : decode cX3_copyPoints 5 = .ok (.getfield 10, 3) := by decide +kernel
theorem dX3_copyPoints_8 : decode cX3_copyPoints 8 = .ok (.getfield 163, 3) := by decide +kernel
theorem dX3_copyPoints_11 : decode cX3_copyPoints 11 = .ok (.invokestatic 387, 3) := by decide +kernel
theorem dX3_copyPoints_14 : decode cX3_copyPoints 14 = .ok (.aload_n 2, 1) := by decide +kernel
theorem dX3_copyPoints_15 : decode cX3_copyPoints 15 = .ok (.iconst 0, 1) := by decide +kernel
theorem dX3_copyPoints_16 : decode cX3_copyPoints 16 = .ok (.aload 4, 2) := by decide +kernel
theorem dX3_copyPoints_18 : decode cX3_copyPoints 18 = .ok (.iconst 0, 1) := by decide +kernel
theorem dX3_copyPoints_19 : decode cX3_copyPoints 19 = .ok (.aload_n 0, 1) := by decide +kernel
theorem dX3_copyPoints_20 : decode cX3_copyPoints 20 = .ok (.getfield 10, 3) := by decide +kernel
theorem dX3_copyPoints_23 : decode cX3_copyPoints 23 = .ok (.getfield 163, 3) := by decide +kernel
theorem dX3_copyPoints_26 : decode cX3_copyPoints 26 = .ok (.invokestatic 387, 3) := by decide +kernel
theorem dX3_copyPoints_29 : decode cX3_copyPoints 29 = .ok (.return_, 1) := by decide +kernel
theorem dX3_carryOut_0 : decode cX3_carryOut 0 = .ok (.aload_n 0, 1) := by decide +kernel
theorem dX3_carryOut_1 : decode cX3_carryOut 1 = .ok (.getfield 26, 3) := by decide +kernel
theorem dX3_carryOut_4 : decode cX3_carryOut 4 = .ok (.getfield 393, 3) := by decide +kernel
theorem dX3_carryOut_7 : decode cX3_carryOut 7 = .ok (.iload_n 1, 1) := by decide +kernel
theorem dX3_carryOut_8 : decode cX3_carryOut 8 = .ok (.iaload, 1) := by decide +kernel
theorem dX3_carryOut_9 : decode cX3_carryOut 9 = .ok (.istore_n 2, 1) := by decide +kernel
theorem dX3_carryOut_10 : decode cX3_carryOut 10 = .ok (.iload_n 2, 1) := by decide +kernel
theorem dX3_carryOut_11 : decode cX3_carryOut 11 = .ok (.iconst 4, 1) := by decide +kernel
theorem dX3_carryOut_12 : decode cX3_carryOut 12 = .ok (.if_icmp .ne 10, 3) := by decide +kernel
theorem dX3_carryOut_15 : decode cX3_carryOut 15 = .ok (.aload_n 0, 1) := by decide +kernel
theorem dX3_carryOut_16 : decode cX3_carryOut 16 = .ok (.invokevirtual 119, 3) := by decide +kernel
theorem dX3_carryOut_19 : decode cX3_carryOut 19 = .ok (.pop, 1) := by decide +kernel
theorem dX3_carryOut_20 : decode cX3_carryOut 20 = .ok (.iconst 1, 1) := by decide +kernel
theorem dX3_carryOut_21 : decode cX3_carryOut 21 = .ok (.ireturn, 1) := by decide +kernel
theorem dX3_carryOut_22 : decode cX3_carryOut 22 = .ok (.iload_n 2, 1) := by decide +kernel
theorem dX3_carryOut_23 : decode cX3_carryOut 23 = .ok (.iconst 5, 1) := by decide +kernel
theorem dX3_carryOut_24 : decode cX3_carryOut 24 = .ok (.if_icmp .ne 10, 3) := by decide +kernel
theorem dX3_carryOut_27 : decode cX3_carryOut 27 = .ok (.aload_n 0, 1) := by decide +kernel
theorem dX3_carryOut_28 : decode cX3_carryOut 28 = .ok (.invokevirtual 122, 3) := by decide +kernel
theorem dX3_carryOut_31 : decode cX3_carryOut 31 = .ok (.pop, 1) := by decide +kernel
theorem dX3_carryOut_32 : decode cX3_carryOut 32 = .ok (.iconst 1, 1) := by decide +kernel
theorem dX3_carryOut_33 : decode cX3_carryOut 33 = .ok (.ireturn, 1) := by decide +kernel
theorem dX3_carryOut_34 : decode cX3_carryOut 34 = .ok (.aload_n 0, 1) := by decide +kernel
theorem dX3_carryOut_35 : decode cX3_carryOut 35 = .ok (.getfield 26, 3) := by decide +kernel
theorem dX3_carryOut_38 : decode cX3_carryOut 38 = .ok (.iload_n 1, 1) := by decide +kernel
theorem dX3_carryOut_39 : decode cX3_carryOut 39 = .ok (.iconst 0, 1) := by decide +kernel
theorem dX3_carryOut_40 : decode cX3_carryOut 40 = .ok (.invokevirtual 396, 3) := by decide +kernel
theorem dX3_carryOut_43 : decode cX3_carryOut 43 = .ok (.istore_n 3, 1) := by decide +kernel
theorem dX3_carryOut_44 : decode cX3_carryOut 44 = .ok (.aload_n 0, 1) := by decide +kernel
theorem dX3_carryOut_45 : decode cX3_carryOut 45 = .ok (.getfield 26, 3) := by decide +kernel
theorem dX3_carryOut_48 : decode cX3_carryOut 48 = .ok (.iload_n 1, 1) := by decide +kernel
theorem dX3_carryOut_49 : decode cX3_carryOut 49 = .ok (.iconst 1, 1) := by decide +kernel
theorem dX3_carryOut_50 : decode cX3_carryOut 50 = .ok (.invokevirtual 396, 3) := by decide +kernel
theorem dX3_carryOut_53 : decode cX3_carryOut 53 = .ok (.istore 4, 2) := by decide +kernel
theorem dX3_carryOut_55 : decode cX3_carryOut 55 = .ok (.aload_n 0, 1) := by decide +kernel
theorem dX3_carryOut_56 : decode cX3_carryOut 56 = .ok (.getfield 26, 3) := by decide +kernel
theorem dX3_carryOut_59 : decode cX3_carryOut 59 = .ok (.iload_n 1, 1) := by decide +kernel
theorem dX3_carryOut_60 : decode cX3_carryOut 60 = .ok (.iconst 2, 1) := by decide +kernel
theorem dX3_carryOut_61 : decode cX3_carryOut 61 = .ok (.invokevirtual 396, 3) := by decide +kernel
theorem dX3_carryOut_64 : decode cX3_carryOut 64 = .ok (.istore 5, 2) := by decide +kernel
theorem dX3_carryOut_66 : decode cX3_carryOut 66 = .ok (.aload_n 0, 1) := by decide +kernel
theorem dX3_carryOut_67 : decode cX3_carryOut 67 = .ok (.iload_n 3, 1) := by decide +kernel
theorem dX3_carryOut_68 : decode cX3_carryOut 68 = .ok (.invokevirtual 318, 3) := by decide +kernel
theorem dX3_carryOut_71 : decode cX3_carryOut 71 = .ok (.ifCond .eq 32, 3) := by decide +kernel
theorem dX3_carryOut_74 : decode cX3_carryOut 74 = .ok (.aload_n 0, 1) := by decide +kernel
theorem dX3_carryOut_75 : decode cX3_carryOut 75 = .ok (.iload 4, 2) := by decide +kernel
theorem dX3_carryOut_77 : decode cX3_carryOut 77 = .ok (.invokevirtual 318, 3) := by decide +kernel
theorem dX3_carryOut_80 : decode cX3_carryOut 80 = .ok (.ifCond .eq 23, 3) := by decide +kernel
theorem dX3_carryOut_83 : decode cX3_carryOut 83 = .ok (.aload_n 0, 1) := by decide +kernel
theorem dX3_carryOut_84 : decode cX3_carryOut 84 = .ok (.iload 5, 2) := by decide +kernel
theorem dX3_carryOut_86 : decode cX3_carryOut 86 = .ok (.invokevirtual 318, 3) := by decide +kernel
theorem dX3_carryOut_89 : decode cX3_carryOut 89 = .ok (.ifCond .eq 14, 3) := by decide +kernel
theorem dX3_carryOut_92 : decode cX3_carryOut 92 = .ok (.iload_n 3, 1) := by decide +kernel
theorem dX3_carryOut_93 : decode cX3_carryOut 93 = .ok (.iload 4, 2) := by decide +kernel
theorem dX3_carryOut_95 : decode cX3_carryOut 95 = .ok (.iload 5, 2) := by decide +kernel
theorem dX3_carryOut_97 : decode cX3_carryOut 97 = .ok (.invokestatic 330, 3) := by decide +kernel
theorem dX3_carryOut_100 : decode cX3_carryOut 100 = .ok (.ifCond .ne 5, 3) := by decide +kernel
theorem dX3_carryOut_103 : decode cX3_carryOut 103 = .ok (.iconst 0, 1) := by decide +kernel
theorem dX3_carryOut_104 : decode cX3_carryOut 104 = .ok (.ireturn, 1) := by decide +kernel
theorem dX3_carryOut_105 : decode cX3_carryOut 105 = .ok (.iload_n 2, 1) := by decide +kernel
theorem dX3_carryOut_106 : decode cX3_carryOut 106 = .ok (.iconst 3, 1) := by decide +kernel
theorem dX3_carryOut_107 : decode cX3_carryOut 107 = .ok (.if_icmp .eq 18, 3) := by decide +kernel
theorem dX3_carryOut_110 : decode cX3_carryOut 110 = .ok (.aload_n 0, 1) := by decide +kernel
theorem dX3_carryOut_111 : decode cX3_carryOut 111 = .ok (.iload_n 3, 1) := by decide +kernel
theorem dX3_carryOut_112 : decode cX3_carryOut 112 = .ok (.iload 4, 2) := by decide +kernel
theorem dX3_carryOut_114 : decode cX3_carryOut 114 = .ok (.iload 5, 2) := by decide +kernel
theorem dX3_carryOut_116 : decode cX3_carryOut 116 = .ok (.iload_n 2, 1) := by decide +kernel
theorem dX3_carryOut_117 : decode cX3_carryOut 117 = .ok (.invokestatic 399, 3) := by decide +kernel
theorem dX3_carryOut_120 : decode cX3_carryOut 120 = .ok (.invokevirtual 93, 3) := by decide +kernel
theorem dX3_carryOut_123 : decode cX3_carryOut 123 = .ok (.iconst 1, 1) := by decide +kernel
theorem dX3_carryOut_124 : decode cX3_carryOut 124 = .ok (.ireturn, 1) := by decide +kernel
theorem dX3_carryOut_125 : decode cX3_carryOut 125 = .ok (.aload_n 0, 1) := by decide +kernel
theorem dX3_carryOut_126 : decode cX3_carryOut 126 = .ok (.getfield 10, 3) := by decide +kernel
theorem dX3_carryOut_129 : decode cX3_carryOut 129 = .ok (.iload_n 3, 1) := by decide +kernel
theorem dX3_carryOut_130 : decode cX3_carryOut 130 = .ok (.iload 4, 2) := by decide +kernel
theorem dX3_carryOut_132 : decode cX3_carryOut 132 = .ok (.iload 5, 2) := by decide +kernel
theorem dX3_carryOut_134 : decode cX3_carryOut 134 = .ok (.invokevirtual 97, 3) := by decide +kernel
theorem dX3_carryOut_137 : decode cX3_carryOut 137 = .ok (.istore 6, 2) := by decide +kernel
theorem dX3_carryOut_139 : decode cX3_carryOut 139 = .ok (.aload_n 0, 1) := by decide +kernel
theorem dX3_carryOut_140 : decode cX3_carryOut 140 = .ok (.getfield 19, 3) := by decide +kernel
theorem dX3_carryOut_143 : decode cX3_carryOut 143 = .ok (.getfield 100, 3) := by decide +kernel
theorem dX3_carryOut_146 : decode cX3_carryOut 146 = .ok (.iload 6, 2) := by decide +kernel
theorem dX3_carryOut_148 : decode cX3_carryOut 148 = .ok (.iaload, 1) := by decide +kernel
theorem dX3_carryOut_149 : decode cX3_carryOut 149 = .ok (.iconst 1, 1) := by decide +kernel
theorem dX3_carryOut_150 : decode cX3_carryOut 150 = .ok (.if_icmp .eq 5, 3) := by decide +kernel
theorem dX3_carryOut_153 : decode cX3_carryOut 153 = .ok (.iconst 0, 1) := by decide +kernel
theorem dX3_carryOut_154 : decode cX3_carryOut 154 = .ok (.ireturn, 1) := by decide +kernel
theorem dX3_carryOut_155 : decode cX3_carryOut 155 = .ok (.aload_n 0, 1) := by decide +kernel
theorem dX3_carryOut_156 : decode cX3_carryOut 156 = .ok (.iload 6, 2) := by decide +kernel
theorem dX3_carryOut_158 : decode cX3_carryOut 158 = .ok (.invokevirtual 108, 3) := by decide +kernel
theorem dX3_carryOut_161 : decode cX3_carryOut 161 = .ok (.iconst 1, 1) := by decide +kernel
theorem dX3_carryOut_162 : decode cX3_carryOut 162 = .ok (.ireturn, 1) := by decide +kernel
theorem dX3_writtenIn_0 : decode cX3_writtenIn 0 = .ok (.iload_n 3, 1) := by decide +kernel
theorem dX3_writtenIn_1 : decode cX3_writtenIn 1 = .ok (.aload_n 2, 1) := by decide +kernel
theorem dX3_writtenIn_2 : decode cX3_writtenIn 2 = .ok (.invokevirtual 278, 3) := by decide +kernel
theorem dX3_writtenIn_5 : decode cX3_writtenIn 5 = .ok (.isub, 1) := by decide +kernel
theorem dX3_writtenIn_6 : decode cX3_writtenIn 6 = .ok (.istore 4, 2) := by decide +kernel
theorem dX3_writtenIn_8 : decode cX3_writtenIn 8 = .ok (.iload_n 3, 1) := by decide +kernel
theorem dX3_writtenIn_9 : decode cX3_writtenIn 9 = .ok (.ifCond .lt 14, 3) := by decide +kernel
theorem dX3_writtenIn_12 : decode cX3_writtenIn 12 = .ok (.iload 4, 2) := by decide +kernel
theorem dX3_writtenIn_14 : decode cX3_writtenIn 14 = .ok (.ifCond .ge 9, 3) := by decide +kernel
theorem dX3_writtenIn_17 : decode cX3_writtenIn 17 = .ok (.aload_n 2, 1) := by decide +kernel
theorem dX3_writtenIn_18 : decode cX3_writtenIn 18 = .ok (.iload_n 3, 1) := by decide +kernel
theorem dX3_writtenIn_19 : decode cX3_writtenIn 19 = .ok (.invokevirtual 402, 3) := by decide +kernel
theorem dX3_writtenIn_22 : decode cX3_writtenIn 22 = .ok (.ireturn, 1) := by decide +kernel
theorem dX3_writtenIn_23 : decode cX3_writtenIn 23 = .ok (.iload 4, 2) := by decide +kernel
theorem dX3_writtenIn_25 : decode cX3_writtenIn 25 = .ok (.ifCond .ne 6, 3) := by decide +kernel
theorem dX3_writtenIn_28 : decode cX3_writtenIn 28 = .ok (.bipush 32, 2) := by decide +kernel
theorem dX3_writtenIn_30 : decode cX3_writtenIn 30 = .ok (.ireturn, 1) := by decide +kernel
theorem dX3_writtenIn_31 : decode cX3_writtenIn 31 = .ok (.iload 4, 2) := by decide +kernel
theorem dX3_writtenIn_33 : decode cX3_writtenIn 33 = .ok (.iconst 3, 1) := by decide +kernel
theorem dX3_writtenIn_34 : decode cX3_writtenIn 34 = .ok (.if_icmp .le 8, 3) := by decide +kernel
theorem dX3_writtenIn_37 : decode cX3_writtenIn 37 = .ok (.bipush 59, 2) := by decide +kernel
theorem dX3_writtenIn_39 : decode cX3_writtenIn 39 = .ok (.goto 18, 3) := by decide +kernel
theorem dX3_writtenIn_42 : decode cX3_writtenIn 42 = .ok (.bipush 97, 2) := by decide +kernel
theorem dX3_writtenIn_44 : decode cX3_writtenIn 44 = .ok (.aload_n 0, 1) := by decide +kernel
theorem dX3_writtenIn_45 : decode cX3_writtenIn 45 = .ok (.getfield 10, 3) := by decide +kernel
theorem dX3_writtenIn_48 : decode cX3_writtenIn 48 = .ok (.iload_n 1, 1) := by decide +kernel
theorem dX3_writtenIn_49 : decode cX3_writtenIn 49 = .ok (.iload 4, 2) := by decide +kernel
theorem dX3_writtenIn_51 : decode cX3_writtenIn 51 = .ok (.iconst 1, 1) := by decide +kernel
theorem dX3_writtenIn_52 : decode cX3_writtenIn 52 = .ok (.isub, 1) := by decide +kernel
theorem dX3_writtenIn_53 : decode cX3_writtenIn 53 = .ok (.invokevirtual 148, 3) := by decide +kernel
theorem dX3_writtenIn_56 : decode cX3_writtenIn 56 = .ok (.iadd, 1) := by decide +kernel
theorem dX3_writtenIn_57 : decode cX3_writtenIn 57 = .ok (.ireturn, 1) := by decide +kernel
theorem dX3_save_0 : decode cX3_save 0 = .ok (.aload_n 0, 1) := by decide +kernel
theorem dX3_save_1 : decode cX3_save 1 = .ok (.getfield 34, 3) := by decide +kernel
theorem dX3_save_4 : decode cX3_save 4 = .ok (.iconst 4, 1) := by decide +kernel
theorem dX3_save_5 : decode cX3_save 5 = .ok (.if_icmp .lt 54, 3) := by decide +kernel
theorem dX3_save_8 : decode cX3_save 8 = .ok (.aload_n 0, 1) := by decide +kernel
theorem dX3_save_9 : decode cX3_save 9 = .ok (.getfield 30, 3) := by decide +kernel
theorem dX3_save_12 : decode cX3_save 12 = .ok (.iconst 0, 1) := by decide +kernel
theorem dX3_save_13 : decode cX3_save 13 = .ok (.aaload, 1) := by decide +kernel
theorem dX3_save_14 : decode cX3_save 14 = .ok (.astore_n 1, 1) := by decide +kernel
theorem dX3_save_15 : decode cX3_save 15 = .ok (.iconst 1, 1) := by decide +kernel
theorem dX3_save_16 : decode cX3_save 16 = .ok (.istore_n 2, 1) := by decide +kernel
theorem dX3_save_17 : decode cX3_save 17 = .ok (.iload_n 2, 1) := by decide +kernel
theorem dX3_save_18 : decode cX3_save 18 = .ok (.iconst 4, 1) := by decide +kernel
theorem dX3_save_19 : decode cX3_save 19 = .ok (.if_icmp .ge 23, 3) := by decide +kernel
theorem dX3_save_22 : decode cX3_save 22 = .ok (.aload_n 0, 1) := by decide +kernel
theorem dX3_save_23 : decode cX3_save 23 = .ok (.getfield 30, 3) := by decide +kernel
theorem dX3_save_26 : decode cX3_save 26 = .ok (.iload_n 2, 1) := by decide +kernel
theorem dX3_save_27 : decode cX3_save 27 = .ok (.iconst 1, 1) := by decide +kernel
theorem dX3_save_28 : decode cX3_save 28 = .ok (.isub, 1) := by decide +kernel
theorem dX3_save_29 : decode cX3_save 29 = .ok (.aload_n 0, 1) := by decide +kernel
theorem dX3_save_30 : decode cX3_save 30 = .ok (.getfield 30, 3) := by decide +kernel
theorem dX3_save_33 : decode cX3_save 33 = .ok (.iload_n 2, 1) := by decide +kernel
theorem dX3_save_34 : decode cX3_save 34 = .ok (.aaload, 1) := by decide +kernel
theorem dX3_save_35 : decode cX3_save 35 = .ok (.aastore, 1) := by decide +kernel
theorem dX3_save_36 : decode cX3_save 36 = .ok (.iinc 2 1, 3) := by decide +kernel
theorem dX3_save_39 : decode cX3_save 39 = .ok (.goto (-22), 3) := by decide +kernel
theorem dX3_save_42 : decode cX3_save 42 = .ok (.aload_n 0, 1) := by decide +kernel
theorem dX3_save_43 : decode cX3_save 43 = .ok (.getfield 30, 3) := by decide +kernel
theorem dX3_save_46 : decode cX3_save 46 = .ok (.iconst 3, 1) := by decide +kernel
theorem dX3_save_47 : decode cX3_save 47 = .ok (.aload_n 1, 1) := by decide +kernel
theorem dX3_save_48 : decode cX3_save 48 = .ok (.aastore, 1) := by decide +kernel
theorem dX3_save_49 : decode cX3_save 49 = .ok (.aload_n 0, 1) := by decide +kernel
theorem dX3_save_50 : decode cX3_save 50 = .ok (.dup, 1) := by decide +kernel
theorem dX3_save_51 : decode cX3_save 51 = .ok (.getfield 34, 3) := by decide +kernel
theorem dX3_save_54 : decode cX3_save 54 = .ok (.iconst 1, 1) := by decide +kernel
theorem dX3_save_55 : decode cX3_save 55 = .ok (.isub, 1) := by decide +kernel
theorem dX3_save_56 : decode cX3_save 56 = .ok (.putfield 34, 3) := by decide +kernel
theorem dX3_save_59 : decode cX3_save 59 = .ok (.aload_n 0, 1) := by decide +kernel
theorem dX3_save_60 : decode cX3_save 60 = .ok (.getfield 30, 3) := by decide +kernel
theorem dX3_save_63 : decode cX3_save 63 = .ok (.aload_n 0, 1) := by decide +kernel
theorem dX3_save_64 : decode cX3_save 64 = .ok (.getfield 34, 3) := by decide +kernel
theorem dX3_save_67 : decode cX3_save 67 = .ok (.aaload, 1) := by decide +kernel
theorem dX3_save_68 : decode cX3_save 68 = .ok (.aload_n 0, 1) := by decide +kernel
theorem dX3_save_69 : decode cX3_save 69 = .ok (.getfield 19, 3) := by decide +kernel
theorem dX3_save_72 : decode cX3_save 72 = .ok (.invokevirtual 288, 3) := by decide +kernel
theorem dX3_save_75 : decode cX3_save 75 = .ok (.aload_n 0, 1) := by decide +kernel
theorem dX3_save_76 : decode cX3_save 76 = .ok (.dup, 1) := by decide +kernel
theorem dX3_save_77 : decode cX3_save 77 = .ok (.getfield 34, 3) := by decide +kernel
theorem dX3_save_80 : decode cX3_save 80 = .ok (.iconst 1, 1) := by decide +kernel
theorem dX3_save_81 : decode cX3_save 81 = .ok (.iadd, 1) := by decide +kernel
theorem dX3_save_82 : decode cX3_save 82 = .ok (.putfield 34, 3) := by decide +kernel
theorem dX3_save_85 : decode cX3_save 85 = .ok (.return_, 1) := by decide +kernel
theorem dX4_init_0 : decode cX4_init 0 = .ok (.aload_n 0, 1) := by decide +kernel
theorem dX4_init_1 : decode cX4_init 1 = .ok (.invokespecial 1, 3) := by decide +kernel
theorem dX4_init_4 : decode cX4_init 4 = .ok (.aload_n 0, 1) := by decide +kernel
theorem dX4_init_5 : decode cX4_init 5 = .ok (.sipush 243, 3) := by decide +kernel
theorem dX4_init_8 : decode cX4_init 8 = .ok (.newarray .int, 2) := by decide +kernel
theorem dX4_init_10 : decode cX4_init 10 = .ok (.putfield 7, 3) := by decide +kernel
theorem dX4_init_13 : decode cX4_init 13 = .ok (.aload_n 0, 1) := by decide +kernel
theorem dX4_init_14 : decode cX4_init 14 = .ok (.sipush 972, 3) := by decide +kernel
theorem dX4_init_17 : decode cX4_init 17 = .ok (.newarray .int, 2) := by decide +kernel
theorem dX4_init_19 : decode cX4_init 19 = .ok (.putfield 13, 3) := by decide +kernel
theorem dX4_init_22 : decode cX4_init 22 = .ok (.aload_n 0, 1) := by decide +kernel
theorem dX4_init_23 : decode cX4_init 23 = .ok (.sipush 243, 3) := by decide +kernel
theorem dX4_init_26 : decode cX4_init 26 = .ok (.newarray .int, 2) := by decide +kernel
theorem dX4_init_28 : decode cX4_init 28 = .ok (.putfield 16, 3) := by decide +kernel
theorem dX4_init_31 : decode cX4_init 31 = .ok (.aload_n 0, 1) := by decide +kernel
theorem dX4_init_32 : decode cX4_init 32 = .ok (.bipush 120, 2) := by decide +kernel
theorem dX4_init_34 : decode cX4_init 34 = .ok (.newarray .int, 2) := by decide +kernel
theorem dX4_init_36 : decode cX4_init 36 = .ok (.putfield 19, 3) := by decide +kernel
theorem dX4_init_39 : decode cX4_init 39 = .ok (.aload_n 0, 1) := by decide +kernel
theorem dX4_init_40 : decode cX4_init 40 = .ok (.sipush 168, 3) := by decide +kernel
theorem dX4_init_43 : decode cX4_init 43 = .ok (.newarray .int, 2) := by decide +kernel
theorem dX4_init_45 : decode cX4_init 45 = .ok (.putfield 22, 3) := by decide +kernel
theorem dX4_init_48 : decode cX4_init 48 = .ok (.aload_n 0, 1) := by decide +kernel
theorem dX4_init_49 : decode cX4_init 49 = .ok (.sipush 512, 3) := by decide +kernel
theorem dX4_init_52 : decode cX4_init 52 = .ok (.newarray .int, 2) := by decide +kernel
theorem dX4_init_54 : decode cX4_init 54 = .ok (.putfield 25, 3) := by decide +kernel
theorem dX4_init_57 : decode cX4_init 57 = .ok (.aload_n 0, 1) := by decide +kernel
theorem dX4_init_58 : decode cX4_init 58 = .ok (.sipush 1400, 3) := by decide +kernel
theorem dX4_init_61 : decode cX4_init 61 = .ok (.newarray .int, 2) := by decide +kernel
theorem dX4_init_63 : decode cX4_init 63 = .ok (.putfield 28, 3) := by decide +kernel
theorem dX4_init_66 : decode cX4_init 66 = .ok (.aload_n 0, 1) := by decide +kernel
theorem dX4_init_67 : decode cX4_init 67 = .ok (.bipush 6, 2) := by decide +kernel
theorem dX4_init_69 : decode cX4_init 69 = .ok (.newarray .int, 2) := by decide +kernel
theorem dX4_init_71 : decode cX4_init 71 = .ok (.putfield 31, 3) := by decide +kernel
theorem dX4_init_74 : decode cX4_init 74 = .ok (.aload_n 0, 1) := by decide +kernel
theorem dX4_init_75 : decode cX4_init 75 = .ok (.bipush 6, 2) := by decide +kernel
theorem dX4_init_77 : decode cX4_init 77 = .ok (.newarray .int, 2) := by decide +kernel
theorem dX4_init_79 : decode cX4_init 79 = .ok (.putfield 34, 3) := by decide +kernel
theorem dX4_init_82 : decode cX4_init 82 = .ok (.aload_n 0, 1) := by decide +kernel
theorem dX4_init_83 : decode cX4_init 83 = .ok (.bipush 56, 2) := by decide +kernel
theorem dX4_init_85 : decode cX4_init 85 = .ok (.newarray .int, 2) := by decide +kernel
theorem dX4_init_87 : decode cX4_init 87 = .ok (.putfield 37, 3) := by decide +kernel
theorem dX4_init_90 : decode cX4_init 90 = .ok (.aload_n 0, 1) := by decide +kernel
theorem dX4_init_91 : decode cX4_init 91 = .ok (.bipush 56, 2) := by decide +kernel
theorem dX4_init_93 : decode cX4_init 93 = .ok (.newarray .long, 2) := by decide +kernel
theorem dX4_init_95 : decode cX4_init 95 = .ok (.putfield 40, 3) := by decide +kernel
theorem dX4_init_98 : decode cX4_init 98 = .ok (.aload_n 0, 1) := by decide +kernel
theorem dX4_init_99 : decode cX4_init 99 = .ok (.bipush 10, 2) := by decide +kernel
theorem dX4_init_101 : decode cX4_init 101 = .ok (.newarray .int, 2) := by decide +kernel
theorem dX4_init_103 : decode cX4_init 103 = .ok (.putfield 44, 3) := by decide +kernel
theorem dX4_init_106 : decode cX4_init 106 = .ok (.aload_n 0, 1) := by decide +kernel
theorem dX4_init_107 : decode cX4_init 107 = .ok (.bipush 28, 2) := by decide +kernel
theorem dX4_init_109 : decode cX4_init 109 = .ok (.newarray .int, 2) := by decide +kernel
theorem dX4_init_111 : decode cX4_init 111 = .ok (.putfield 47, 3) := by decide +kernel
theorem dX4_init_114 : decode cX4_init 114 = .ok (.aload_n 0, 1) := by decide +kernel
theorem dX4_init_115 : decode cX4_init 115 = .ok (.bipush 16, 2) := by decide +kernel
theorem dX4_init_117 : decode cX4_init 117 = .ok (.newarray .int, 2) := by decide +kernel
theorem dX4_init_119 : decode cX4_init 119 = .ok (.putfield 50, 3) := by decide +kernel
theorem dX4_init_122 : decode cX4_init 122 = .ok (.aload_n 0, 1) := by decide +kernel
theorem dX4_init_123 : decode cX4_init 123 = .ok (.iconst 3, 1) := by decide +kernel
theorem dX4_init_124 : decode cX4_init 124 = .ok (.newarray .int, 2) := by decide +kernel
theorem dX4_init_126 : decode cX4_init 126 = .ok (.putfield 53, 3) := by decide +kernel
theorem dX4_init_129 : decode cX4_init 129 = .ok (.aload_n 0, 1) := by decide +kernel
theorem dX4_init_130 : decode cX4_init 130 = .ok (.iconst 5, 1) := by decide +kernel
theorem dX4_init_131 : decode cX4_init 131 = .ok (.invokevirtual 56, 3) := by decide +kernel
theorem dX4_init_134 : decode cX4_init 134 = .ok (.return_, 1) := by decide +kernel
theorem dX4_thrown_0 : decode cX4_thrown 0 = .ok (.aload_n 0, 1) := by decide +kernel
theorem dX4_thrown_1 : decode cX4_thrown 1 = .ok (.getfield 60, 3) := by decide +kernel
theorem dX4_thrown_4 : decode cX4_thrown 4 = .ok (.ireturn, 1) := by decide +kernel
theorem dX4_in_0 : decode cX4_in 0 = .ok (.iload_n 0, 1) := by decide +kernel
theorem dX4_in_1 : decode cX4_in 1 = .ok (.iload_n 1, 1) := by decide +kernel
theorem dX4_in_2 : decode cX4_in 2 = .ok (.if_icmp .lt 12, 3) := by decide +kernel
theorem dX4_in_5 : decode cX4_in 5 = .ok (.iload_n 0, 1) := by decide +kernel
theorem dX4_in_6 : decode cX4_in 6 = .ok (.iload_n 2, 1) := by decide +kernel
theorem dX4_in_7 : decode cX4_in 7 = .ok (.if_icmp .gt 7, 3) := by decide +kernel
theorem dX4_in_10 : decode cX4_in 10 = .ok (.iconst 1, 1) := by decide +kernel
theorem dX4_in_11 : decode cX4_in 11 = .ok (.goto 4, 3) := by decide +kernel
theorem dX4_in_14 : decode cX4_in 14 = .ok (.iconst 0, 1) := by decide +kernel
theorem dX4_in_15 : decode cX4_in 15 = .ok (.ireturn, 1) := by decide +kernel
theorem dX4_fails_0 : decode cX4_fails 0 = .ok (.aload_n 0, 1) := by decide +kernel
theorem dX4_fails_1 : decode cX4_fails 1 = .ok (.iload_n 1, 1) := by decide +kernel
theorem dX4_fails_2 : decode cX4_fails 2 = .ok (.putfield 60, 3) := by decide +kernel
theorem dX4_fails_5 : decode cX4_fails 5 = .ok (.iconst 0, 1) := by decide +kernel
theorem dX4_fails_6 : decode cX4_fails 6 = .ok (.ireturn, 1) := by decide +kernel
theorem dX4_tells_0 : decode cX4_tells 0 = .ok (.aload_n 0, 1) := by decide +kernel
theorem dX4_tells_1 : decode cX4_tells 1 = .ok (.iconst 0, 1) := by decide +kernel
theorem dX4_tells_2 : decode cX4_tells 2 = .ok (.putfield 60, 3) := by decide +kernel
theorem dX4_tells_5 : decode cX4_tells 5 = .ok (.iload_n 1, 1) := by decide +kernel
theorem dX4_tells_6 : decode cX4_tells 6 = .ok (.ireturn, 1) := by decide +kernel
theorem dX4_hold_0 : decode cX4_hold 0 = .ok (.iconst 0, 1) := by decide +kernel
theorem dX4_hold_1 : decode cX4_hold 1 = .ok (.istore_n 1, 1) := by decide +kernel
theorem dX4_hold_2 : decode cX4_hold 2 = .ok (.iload_n 1, 1) := by decide +kernel
theorem dX4_hold_3 : decode cX4_hold 3 = .ok (.sipush 243, 3) := by decide +kernel
theorem dX4_hold_6 : decode cX4_hold 6 = .ok (.if_icmp .ge 21, 3) := by decide +kernel
theorem dX4_hold_9 : decode cX4_hold 9 = .ok (.aload_n 0, 1) := by decide +kernel
theorem dX4_hold_10 : decode cX4_hold 10 = .ok (.getfield 16, 3) := by decide +kernel
theorem dX4_hold_13 : decode cX4_hold 13 = .ok (.iload_n 1, 1) := by decide +kernel
theorem dX4_hold_14 : decode cX4_hold 14 = .ok (.aload_n 0, 1) := by decide +kernel
theorem dX4_hold_15 : decode cX4_hold 15 = .ok (.getfield 7, 3) := by decide +kernel
theorem dX4_hold_18 : decode cX4_hold 18 = .ok (.iload_n 1, 1) := by decide +kernel
theorem dX4_hold_19 : decode cX4_hold 19 = .ok (.iaload, 1) := by decide +kernel
theorem dX4_hold_20 : decode cX4_hold 20 = .ok (.iastore, 1) := by decide +kernel
theorem dX4_hold_21 : decode cX4_hold 21 = .ok (.iinc 1 1, 3) := by decide +kernel
theorem dX4_hold_24 : decode cX4_hold 24 = .ok (.goto (-22), 3) := by decide +kernel
theorem dX4_hold_27 : decode cX4_hold 27 = .ok (.return_, 1) := by decide +kernel
theorem dX4_ends_0 : decode cX4_ends 0 = .ok (.aload_n 0, 1) := by decide +kernel
theorem dX4_ends_1 : decode cX4_ends 1 = .ok (.getfield 64, 3) := by decide +kernel
theorem dX4_ends_4 : decode cX4_ends 4 = .ok (.iconst 4, 1) := by decide +kernel
theorem dX4_ends_5 : decode cX4_ends 5 = .ok (.if_icmp .ne 44, 3) := by decide +kernel
theorem dX4_ends_8 : decode cX4_ends 8 = .ok (.iconst 0, 1) := by decide +kernel
theorem dX4_ends_9 : decode cX4_ends 9 = .ok (.istore_n 2, 1) := by decide +kernel
theorem dX4_ends_10 : decode cX4_ends 10 = .ok (.iload_n 2, 1) := by decide +kernel
theorem dX4_ends_11 : decode cX4_ends 11 = .ok (.sipush 729, 3) := by decide +kernel
theorem dX4_ends_14 : decode cX4_ends 14 = .ok (.if_icmp .ge 25, 3) := by decide +kernel
theorem dX4_ends_17 : decode cX4_ends 17 = .ok (.aload_n 0, 1) := by decide +kernel
theorem dX4_ends_18 : decode cX4_ends 18 = .ok (.getfield 13, 3) := by decide +kernel
theorem dX4_ends_21 : decode cX4_ends 21 = .ok (.iload_n 2, 1) := by decide +kernel
theorem dX4_ends_22 : decode cX4_ends 22 = .ok (.aload_n 0, 1) := by decide +kernel
theorem dX4_ends_23 : decode cX4_ends 23 = .ok (.getfield 13, 3) := by decide +kernel
theorem dX4_ends_26 : decode cX4_ends 26 = .ok (.iload_n 2, 1) := by decide +kernel
theorem dX4_ends_27 : decode cX4_ends 27 = .ok (.sipush 243, 3) := by decide +kernel
theorem dX4_ends_30 : decode cX4_ends 30 = .ok (.iadd, 1) := by decide +kernel
theorem dX4_ends_31 : decode cX4_ends 31 = .ok (.iaload, 1) := by decide +kernel
theorem dX4_ends_32 : decode cX4_ends 32 = .ok (.iastore, 1) := by decide +kernel
theorem dX4_ends_33 : decode cX4_ends 33 = .ok (.iinc 2 1, 3) := by decide +kernel
theorem dX4_ends_36 : decode cX4_ends 36 = .ok (.goto (-26), 3) := by decide +kernel
theorem dX4_ends_39 : decode cX4_ends 39 = .ok (.aload_n 0, 1) := by decide +kernel
theorem dX4_ends_40 : decode cX4_ends 40 = .ok (.dup, 1) := by decide +kernel
theorem dX4_ends_41 : decode cX4_ends 41 = .ok (.getfield 64, 3) := by decide +kernel
theorem dX4_ends_44 : decode cX4_ends 44 = .ok (.iconst 1, 1) := by decide +kernel
theorem dX4_ends_45 : decode cX4_ends 45 = .ok (.isub, 1) := by decide +kernel
theorem dX4_ends_46 : decode cX4_ends 46 = .ok (.putfield 64, 3) := by decide +kernel
theorem dX4_ends_49 : decode cX4_ends 49 = .ok (.iconst 0, 1) := by decide +kernel
theorem dX4_ends_50 : decode cX4_ends 50 = .ok (.istore_n 2, 1) := by decide +kernel
theorem dX4_ends_51 : decode cX4_ends 51 = .ok (.iload_n 2, 1) := by decide +kernel
theorem dX4_ends_52 : decode cX4_ends 52 = .ok (.sipush 243, 3) := by decide +kernel
theorem dX4_ends_55 : decode cX4_ends 55 = .ok (.if_icmp .ge 30, 3) := by decide +kernel
theorem dX4_ends_58 : decode cX4_ends 58 = .ok (.aload_n 0, 1) := by decide +kernel
theorem dX4_ends_59 : decode cX4_ends 59 = .ok (.getfield 13, 3) := by decide +kernel
theorem dX4_ends_62 : decode cX4_ends 62 = .ok (.sipush 243, 3) := by decide +kernel
theorem dX4_ends_65 : decode cX4_ends 65 = .ok (.aload_n 0, 1) := by decide +kernel
theorem dX4_ends_66 : decode cX4_ends 66 = .ok (.getfield 64, 3) := by decide +kernel
theorem dX4_ends_69 : decode cX4_ends 69 = .ok (.imul, 1) := by decide +kernel
theorem dX4_ends_70 : decode cX4_ends 70 = .ok (.iload_n 2, 1) := by decide +kernel
theorem dX4_ends_71 : decode cX4_ends 71 = .ok (.iadd, 1) := by decide +kernel
theorem dX4_ends_72 : decode cX4_ends 72 = .ok (.aload_n 0, 1) := by decide +kernel
theorem dX4_ends_73 : decode cX4_ends 73 = .ok (.getfield 16, 3) := by decide +kernel
theorem dX4_ends_76 : decode cX4_ends 76 = .ok (.iload_n 2, 1) := by decide +kernel
theorem dX4_ends_77 : decode cX4_ends 77 = .ok (.iaload, 1) := by decide +kernel
theorem dX4_ends_78 : decode cX4_ends 78 = .ok (.iastore, 1) := by decide +kernel
theorem dX4_ends_79 : decode cX4_ends 79 = .ok (.iinc 2 1, 3) := by decide +kernel
theorem dX4_ends_82 : decode cX4_ends 82 = .ok (.goto (-31), 3) := by decide +kernel
theorem dX4_ends_85 : decode cX4_ends 85 = .ok (.aload_n 0, 1) := by decide +kernel
theorem dX4_ends_86 : decode cX4_ends 86 = .ok (.dup, 1) := by decide +kernel
theorem dX4_ends_87 : decode cX4_ends 87 = .ok (.getfield 64, 3) := by decide +kernel
theorem dX4_ends_90 : decode cX4_ends 90 = .ok (.iconst 1, 1) := by decide +kernel
theorem dX4_ends_91 : decode cX4_ends 91 = .ok (.iadd, 1) := by decide +kernel
theorem dX4_ends_92 : decode cX4_ends 92 = .ok (.putfield 64, 3) := by decide +kernel
theorem dX4_ends_95 : decode cX4_ends 95 = .ok (.aload_n 0, 1) := by decide +kernel
theorem dX4_ends_96 : decode cX4_ends 96 = .ok (.iload_n 1, 1) := by decide +kernel
theorem dX4_ends_97 : decode cX4_ends 97 = .ok (.invokevirtual 67, 3) := by decide +kernel
theorem dX4_ends_100 : decode cX4_ends 100 = .ok (.ireturn, 1) := by decide +kernel
theorem dX4_lays_0 : decode cX4_lays 0 = .ok (.aload_n 0, 1) := by decide +kernel
theorem dX4_lays_1 : decode cX4_lays 1 = .ok (.getfield 7, 3) := by decide +kernel
theorem dX4_lays_4 : decode cX4_lays 4 = .ok (.iconst 0, 1) := by decide +kernel
theorem dX4_lays_5 : decode cX4_lays 5 = .ok (.iaload, 1) := by decide +kernel
theorem dX4_lays_6 : decode cX4_lays 6 = .ok (.istore_n 1, 1) := by decide +kernel
theorem dX4_lays_7 : decode cX4_lays 7 = .ok (.aload_n 0, 1) := by decide +kernel
theorem dX4_lays_8 : decode cX4_lays 8 = .ok (.iconst 0, 1) := by decide +kernel
theorem dX4_lays_9 : decode cX4_lays 9 = .ok (.putfield 71, 3) := by decide +kernel
theorem dX4_lays_12 : decode cX4_lays 12 = .ok (.iconst 0, 1) := by decide +kernel
theorem dX4_lays_13 : decode cX4_lays 13 = .ok (.istore_n 2, 1) := by decide +kernel
theorem dX4_lays_14 : decode cX4_lays 14 = .ok (.iload_n 2, 1) := by decide +kernel
theorem dX4_lays_15 : decode cX4_lays 15 = .ok (.iload_n 1, 1) := by decide +kernel
theorem dX4_lays_16 : decode cX4_lays 16 = .ok (.if_icmp .ge 113, 3) := by decide +kernel
theorem dX4_lays_19 : decode cX4_lays 19 = .ok (.iload_n 2, 1) := by decide +kernel
theorem dX4_lays_20 : decode cX4_lays 20 = .ok (.iconst 1, 1) := by decide +kernel
theorem dX4_lays_21 : decode cX4_lays 21 = .ok (.iadd, 1) := by decide +kernel
theorem dX4_lays_22 : decode cX4_lays 22 = .ok (.istore_n 3, 1) := by decide +kernel
theorem dX4_lays_23 : decode cX4_lays 23 = .ok (.iload_n 3, 1) := by decide +kernel
theorem dX4_lays_24 : decode cX4_lays 24 = .ok (.iload_n 1, 1) := by decide +kernel
theorem dX4_lays_25 : decode cX4_lays 25 = .ok (.if_icmp .ge 98, 3) := by decide +kernel
theorem dX4_lays_28 : decode cX4_lays 28 = .ok (.iload_n 3, 1) := by decide +kernel
theorem dX4_lays_29 : decode cX4_lays 29 = .ok (.iconst 1, 1) := by decide +kernel
theorem dX4_lays_30 : decode cX4_lays 30 = .ok (.iadd, 1) := by decide +kernel
theorem dX4_lays_31 : decode cX4_lays 31 = .ok (.istore 4, 2) := by decide +kernel
theorem dX4_lays_33 : decode cX4_lays 33 = .ok (.iload 4, 2) := by decide +kernel
theorem dX4_lays_35 : decode cX4_lays 35 = .ok (.iload_n 1, 1) := by decide +kernel
theorem dX4_lays_36 : decode cX4_lays 36 = .ok (.if_icmp .ge 81, 3) := by decide +kernel
theorem dX4_lays_39 : decode cX4_lays 39 = .ok (.aload_n 0, 1) := by decide +kernel
theorem dX4_lays_40 : decode cX4_lays 40 = .ok (.getfield 22, 3) := by decide +kernel
theorem dX4_lays_43 : decode cX4_lays 43 = .ok (.iconst 3, 1) := by decide +kernel
theorem dX4_lays_44 : decode cX4_lays 44 = .ok (.aload_n 0, 1) := by decide +kernel
theorem dX4_lays_45 : decode cX4_lays 45 = .ok (.getfield 71, 3) := by decide +kernel
theorem dX4_lays_48 : decode cX4_lays 48 = .ok (.imul, 1) := by decide +kernel
theorem dX4_lays_49 : decode cX4_lays 49 = .ok (.iload_n 2, 1) := by decide +kernel
theorem dX4_lays_50 : decode cX4_lays 50 = .ok (.iastore, 1) := by decide +kernel
theorem dX4_lays_51 : decode cX4_lays 51 = .ok (.aload_n 0, 1) := by decide +kernel
theorem dX4_lays_52 : decode cX4_lays 52 = .ok (.getfield 22, 3) := by decide +kernel
theorem dX4_lays_55 : decode cX4_lays 55 = .ok (.iconst 3, 1) := by decide +kernel
theorem dX4_lays_56 : decode cX4_lays 56 = .ok (.aload_n 0, 1) := by decide +kernel
theorem dX4_lays_57 : decode cX4_lays 57 = .ok (.getfield 71, 3) := by decide +kernel
theorem dX4_lays_60 : decode cX4_lays 60 = .ok (.imul, 1) := by decide +kernel
theorem dX4_lays_61 : decode cX4_lays 61 = .ok (.iconst 1, 1) := by decide +kernel
theorem dX4_lays_62 : decode cX4_lays 62 = .ok (.iadd, 1) := by decide +kernel
theorem dX4_lays_63 : decode cX4_lays 63 = .ok (.iload_n 3, 1) := by decide +kernel
theorem dX4_lays_64 : decode cX4_lays 64 = .ok (.iastore, 1) := by decide +kernel
theorem dX4_lays_65 : decode cX4_lays 65 = .ok (.aload_n 0, 1) := by decide +kernel
theorem dX4_lays_66 : decode cX4_lays 66 = .ok (.getfield 22, 3) := by decide +kernel
theorem dX4_lays_69 : decode cX4_lays 69 = .ok (.iconst 3, 1) := by decide +kernel
theorem dX4_lays_70 : decode cX4_lays 70 = .ok (.aload_n 0, 1) := by decide +kernel
theorem dX4_lays_71 : decode cX4_lays 71 = .ok (.getfield 71, 3) := by decide +kernel
theorem dX4_lays_74 : decode cX4_lays 74 = .ok (.imul, 1) := by decide +kernel
theorem dX4_lays_75 : decode cX4_lays 75 = .ok (.iconst 2, 1) := by decide +kernel
theorem dX4_lays_76 : decode cX4_lays 76 = .ok (.iadd, 1) := by decide +kernel
theorem dX4_lays_77 : decode cX4_lays 77 = .ok (.iload 4, 2) := by decide +kernel
theorem dX4_lays_79 : decode cX4_lays 79 = .ok (.iastore, 1) := by decide +kernel
theorem dX4_lays_80 : decode cX4_lays 80 = .ok (.aload_n 0, 1) := by decide +kernel
theorem dX4_lays_81 : decode cX4_lays 81 = .ok (.getfield 25, 3) := by decide +kernel
theorem dX4_lays_84 : decode cX4_lays 84 = .ok (.bipush 64, 2) := by decide +kernel
theorem dX4_lays_86 : decode cX4_lays 86 = .ok (.iload_n 2, 1) := by decide +kernel
theorem dX4_lays_87 : decode cX4_lays 87 = .ok (.imul, 1) := by decide +kernel
theorem dX4_lays_88 : decode cX4_lays 88 = .ok (.bipush 8, 2) := by decide +kernel
theorem dX4_lays_90 : decode cX4_lays 90 = .ok (.iload_n 3, 1) := by decide +kernel
theorem dX4_lays_91 : decode cX4_lays 91 = .ok (.imul, 1) := by decide +kernel
theorem dX4_lays_92 : decode cX4_lays 92 = .ok (.iadd, 1) := by decide +kernel
theorem dX4_lays_93 : decode cX4_lays 93 = .ok (.iload 4, 2) := by decide +kernel
theorem dX4_lays_95 : decode cX4_lays 95 = .ok (.iadd, 1) := by decide +kernel
theorem dX4_lays_96 : decode cX4_lays 96 = .ok (.aload_n 0, 1) := by decide +kernel
theorem dX4_lays_97 : decode cX4_lays 97 = .ok (.getfield 71, 3) := by decide +kernel
theorem dX4_lays_100 : decode cX4_lays 100 = .ok (.iastore, 1) := by decide +kernel
theorem dX4_lays_101 : decode cX4_lays 101 = .ok (.aload_n 0, 1) := by decide +kernel
theorem dX4_lays_102 : decode cX4_lays 102 = .ok (.dup, 1) := by decide +kernel
theorem dX4_lays_103 : decode cX4_lays 103 = .ok (.getfield 71, 3) := by decide +kernel
theorem dX4_lays_106 : decode cX4_lays 106 = .ok (.iconst 1, 1) := by decide +kernel
theorem dX4_lays_107 : decode cX4_lays 107 = .ok (.iadd, 1) := by decide +kernel
theorem dX4_lays_108 : decode cX4_lays 108 = .ok (.putfield 71, 3) := by decide +kernel
theorem dX4_lays_111 : decode cX4_lays 111 = .ok (.iinc 4 1, 3) := by decide +kernel
theorem dX4_lays_114 : decode cX4_lays 114 = .ok (.goto (-81), 3) := by decide +kernel
theorem dX4_lays_117 : decode cX4_lays 117 = .ok (.iinc 3 1, 3) := by decide +kernel
theorem dX4_lays_120 : decode cX4_lays 120 = .ok (.goto (-97), 3) := by decide +kernel
theorem dX4_lays_123 : decode cX4_lays 123 = .ok (.iinc 2 1, 3) := by decide +kernel
theorem dX4_lays_126 : decode cX4_lays 126 = .ok (.goto (-112), 3) := by decide +kernel
theorem dX4_lays_129 : decode cX4_lays 129 = .ok (.aload_n 0, 1) := by decide +kernel
theorem dX4_lays_130 : decode cX4_lays 130 = .ok (.iconst 0, 1) := by decide +kernel
theorem dX4_lays_131 : decode cX4_lays 131 = .ok (.putfield 74, 3) := by decide +kernel
theorem dX4_lays_134 : decode cX4_lays 134 = .ok (.iconst 0, 1) := by decide +kernel
theorem dX4_lays_135 : decode cX4_lays 135 = .ok (.istore_n 2, 1) := by decide +kernel
theorem dX4_lays_136 : decode cX4_lays 136 = .ok (.iload_n 2, 1) := by decide +kernel
theorem dX4_lays_137 : decode cX4_lays 137 = .ok (.iload_n 1, 1) := by decide +kernel
theorem dX4_lays_138 : decode cX4_lays 138 = .ok (.if_icmp .ge 28, 3) := by decide +kernel
theorem dX4_lays_141 : decode cX4_lays 141 = .ok (.iconst 0, 1) := by decide +kernel
theorem dX4_lays_142 : decode cX4_lays 142 = .ok (.istore_n 3, 1) := by decide +kernel
theorem dX4_lays_143 : decode cX4_lays 143 = .ok (.iload_n 3, 1) := by decide +kernel
theorem dX4_lays_144 : decode cX4_lays 144 = .ok (.iload_n 1, 1) := by decide +kernel
theorem dX4_lays_145 : decode cX4_lays 145 = .ok (.if_icmp .ge 15, 3) := by decide +kernel
theorem dX4_lays_148 : decode cX4_lays 148 = .ok (.aload_n 0, 1) := by decide +kernel
theorem dX4_lays_149 : decode cX4_lays 149 = .ok (.iload_n 2, 1) := by decide +kernel
theorem dX4_lays_150 : decode cX4_lays 150 = .ok (.iload_n 3, 1) := by decide +kernel
theorem dX4_lays_151 : decode cX4_lays 151 = .ok (.invokevirtual 77, 3) := by decide +kernel
theorem dX4_lays_154 : decode cX4_lays 154 = .ok (.iinc 3 1, 3) := by decide +kernel
theorem dX4_lays_157 : decode cX4_lays 157 = .ok (.goto (-14), 3) := by decide +kernel
theorem dX4_lays_160 : decode cX4_lays 160 = .ok (.iinc 2 1, 3) := by decide +kernel
theorem dX4_lays_163 : decode cX4_lays 163 = .ok (.goto (-27), 3) := by decide +kernel
theorem dX4_lays_166 : decode cX4_lays 166 = .ok (.return_, 1) := by decide +kernel
theorem dX4_laysFrom_0 : decode cX4_laysFrom 0 = .ok (.aload_n 0, 1) := by decide +kernel
theorem dX4_laysFrom_1 : decode cX4_laysFrom 1 = .ok (.getfield 7, 3) := by decide +kernel
theorem dX4_laysFrom_4 : decode cX4_laysFrom 4 = .ok (.iconst 0, 1) := by decide +kernel
theorem dX4_laysFrom_5 : decode cX4_laysFrom 5 = .ok (.iaload, 1) := by decide +kernel
theorem dX4_laysFrom_6 : decode cX4_laysFrom 6 = .ok (.istore_n 3, 1) := by decide +kernel
theorem dX4_laysFrom_7 : decode cX4_laysFrom 7 = .ok (.iload_n 2, 1) := by decide +kernel
theorem dX4_laysFrom_8 : decode cX4_laysFrom 8 = .ok (.iconst 1, 1) := by decide +kernel
theorem dX4_laysFrom_9 : decode cX4_laysFrom 9 = .ok (.iadd, 1) := by decide +kernel
theorem dX4_laysFrom_10 : decode cX4_laysFrom 10 = .ok (.istore 4, 2) := by decide +kernel
theorem dX4_laysFrom_12 : decode cX4_laysFrom 12 = .ok (.iload 4, 2) := by decide +kernel
theorem dX4_laysFrom_14 : decode cX4_laysFrom 14 = .ok (.iload_n 3, 1) := by decide +kernel
theorem dX4_laysFrom_15 : decode cX4_laysFrom 15 = .ok (.if_icmp .ge 149, 3) := by decide +kernel
theorem dX4_laysFrom_18 : decode cX4_laysFrom 18 = .ok (.iload_n 1, 1) := by decide +kernel
theorem dX4_laysFrom_19 : decode cX4_laysFrom 19 = .ok (.iload_n 2, 1) := by decide +kernel
theorem dX4_laysFrom_20 : decode cX4_laysFrom 20 = .ok (.if_icmp .eq 144, 3) := by decide +kernel
theorem dX4_laysFrom_23 : decode cX4_laysFrom 23 = .ok (.iload 4, 2) := by decide +kernel
theorem dX4_laysFrom_25 : decode cX4_laysFrom 25 = .ok (.iconst 1, 1) := by decide +kernel
theorem dX4_laysFrom_26 : decode cX4_laysFrom 26 = .ok (.iadd, 1) := by decide +kernel
theorem dX4_laysFrom_27 : decode cX4_laysFrom 27 = .ok (.istore 5, 2) := by decide +kernel
theorem dX4_laysFrom_29 : decode cX4_laysFrom 29 = .ok (.iload 5, 2) := by decide +kernel
theorem dX4_laysFrom_31 : decode cX4_laysFrom 31 = .ok (.iload_n 3, 1) := by decide +kernel
theorem dX4_laysFrom_32 : decode cX4_laysFrom 32 = .ok (.if_icmp .ge 126, 3) := by decide +kernel
theorem dX4_laysFrom_35 : decode cX4_laysFrom 35 = .ok (.iload_n 1, 1) := by decide +kernel
theorem dX4_laysFrom_36 : decode cX4_laysFrom 36 = .ok (.iload 4, 2) := by decide +kernel
theorem dX4_laysFrom_38 : decode cX4_laysFrom 38 = .ok (.if_icmp .eq 120, 3) := by decide +kernel
theorem dX4_laysFrom_41 : decode cX4_laysFrom 41 = .ok (.iload 5, 2) := by decide +kernel
theorem dX4_laysFrom_43 : decode cX4_laysFrom 43 = .ok (.iconst 1, 1) := by decide +kernel
theorem dX4_laysFrom_44 : decode cX4_laysFrom 44 = .ok (.iadd, 1) := by decide +kernel
theorem dX4_laysFrom_45 : decode cX4_laysFrom 45 = .ok (.istore 6, 2) := by decide +kernel
theorem dX4_laysFrom_47 : decode cX4_laysFrom 47 = .ok (.iload 6, 2) := by decide +kernel
theorem dX4_laysFrom_49 : decode cX4_laysFrom 49 = .ok (.iload_n 3, 1) := by decide +kernel
theorem dX4_laysFrom_50 : decode cX4_laysFrom 50 = .ok (.if_icmp .ge 102, 3) := by decide +kernel
theorem dX4_laysFrom_53 : decode cX4_laysFrom 53 = .ok (.iload_n 1, 1) := by decide +kernel
theorem dX4_laysFrom_54 : decode cX4_laysFrom 54 = .ok (.iload 5, 2) := by decide +kernel
theorem dX4_laysFrom_56 : decode cX4_laysFrom 56 = .ok (.if_icmp .eq 96, 3) := by decide +kernel
theorem dX4_laysFrom_59 : decode cX4_laysFrom 59 = .ok (.iload_n 1, 1) := by decide +kernel
theorem dX4_laysFrom_60 : decode cX4_laysFrom 60 = .ok (.iload 6, 2) := by decide +kernel
theorem dX4_laysFrom_62 : decode cX4_laysFrom 62 = .ok (.if_icmp .eq 84, 3) := by decide +kernel
theorem dX4_laysFrom_65 : decode cX4_laysFrom 65 = .ok (.aload_n 0, 1) := by decide +kernel
theorem dX4_laysFrom_66 : decode cX4_laysFrom 66 = .ok (.getfield 28, 3) := by decide +kernel
theorem dX4_laysFrom_69 : decode cX4_laysFrom 69 = .ok (.iconst 5, 1) := by decide +kernel
theorem dX4_laysFrom_70 : decode cX4_laysFrom 70 = .ok (.aload_n 0, 1) := by decide +kernel
theorem dX4_laysFrom_71 : decode cX4_laysFrom 71 = .ok (.getfield 74, 3) := by decide +kernel
theorem dX4_laysFrom_74 : decode cX4_laysFrom 74 = .ok (.imul, 1) := by decide +kernel
theorem dX4_laysFrom_75 : decode cX4_laysFrom 75 = .ok (.iload_n 1, 1) := by decide +kernel
theorem dX4_laysFrom_76 : decode cX4_laysFrom 76 = .ok (.iastore, 1) := by decide +kernel
theorem dX4_laysFrom_77 : decode cX4_laysFrom 77 = .ok (.aload_n 0, 1) := by decide +kernel
theorem dX4_laysFrom_78 : decode cX4_laysFrom 78 = .ok (.getfield 28, 3) := by decide +kernel
theorem dX4_laysFrom_81 : decode cX4_laysFrom 81 = .ok (.iconst 5, 1) := by decide +kernel
theorem dX4_laysFrom_82 : decode cX4_laysFrom 82 = .ok (.aload_n 0, 1) := by decide +kernel
theorem dX4_laysFrom_83 : decode cX4_laysFrom 83 = .ok (.getfield 74, 3) := by decide +kernel
theorem dX4_laysFrom_86 : decode cX4_laysFrom 86 = .ok (.imul, 1) := by decide +kernel
theorem dX4_laysFrom_87 : decode cX4_laysFrom 87 = .ok (.iconst 1, 1) := by decide +kernel
theorem dX4_laysFrom_88 : decode cX4_laysFrom 88 = .ok (.iadd, 1) := by decide +kernel
theorem dX4_laysFrom_89 : decode cX4_laysFrom 89 = .ok (.iload_n 2, 1) := by decide +kernel
theorem dX4_laysFrom_90 : decode cX4_laysFrom 90 = .ok (.iastore, 1) := by decide +kernel
theorem dX4_laysFrom_91 : decode cX4_laysFrom 91 = .ok (.aload_n 0, 1) := by decide +kernel
theorem dX4_laysFrom_92 : decode cX4_laysFrom 92 = .ok (.getfield 28, 3) := by decide +kernel
theorem dX4_laysFrom_95 : decode cX4_laysFrom 95 = .ok (.iconst 5, 1) := by decide +kernel
theorem dX4_laysFrom_96 : decode cX4_laysFrom 96 = .ok (.aload_n 0, 1) := by decide +kernel
theorem dX4_laysFrom_97 : decode cX4_laysFrom 97 = .ok (.getfield 74, 3) := by decide +kernel
theorem dX4_laysFrom_100 : decode cX4_laysFrom 100 = .ok (.imul, 1) := by decide +kernel
theorem dX4_laysFrom_101 : decode cX4_laysFrom 101 = .ok (.iconst 2, 1) := by decide +kernel
theorem dX4_laysFrom_102 : decode cX4_laysFrom 102 = .ok (.iadd, 1) := by decide +kernel
theorem dX4_laysFrom_103 : decode cX4_laysFrom 103 = .ok (.iload 4, 2) := by decide +kernel
theorem dX4_laysFrom_105 : decode cX4_laysFrom 105 = .ok (.iastore, 1) := by decide +kernel
theorem dX4_laysFrom_106 : decode cX4_laysFrom 106 = .ok (.aload_n 0, 1) := by decide +kernel
theorem dX4_laysFrom_107 : decode cX4_laysFrom 107 = .ok (.getfield 28, 3) := by decide +kernel
theorem dX4_laysFrom_110 : decode cX4_laysFrom 110 = .ok (.iconst 5, 1) := by decide +kernel
theorem dX4_laysFrom_111 : decode cX4_laysFrom 111 = .ok (.aload_n 0, 1) := by decide +kernel
theorem dX4_laysFrom_112 : decode cX4_laysFrom 112 = .ok (.getfield 74, 3) := by decide +kernel
theorem dX4_laysFrom_115 : decode cX4_laysFrom 115 = .ok (.imul, 1) := by decide +kernel
theorem dX4_laysFrom_116 : decode cX4_laysFrom 116 = .ok (.iconst 3, 1) := by decide +kernel
theorem dX4_laysFrom_117 : decode cX4_laysFrom 117 = .ok (.iadd, 1) := by decide +kernel
theorem dX4_laysFrom_118 : decode cX4_laysFrom 118 = .ok (.iload 5, 2) := by decide +kernel
theorem dX4_laysFrom_120 : decode cX4_laysFrom 120 = .ok (.iastore, 1) := by decide +kernel
theorem dX4_laysFrom_121 : decode cX4_laysFrom 121 = .ok (.aload_n 0, 1) := by decide +kernel
theorem dX4_laysFrom_122 : decode cX4_laysFrom 122 = .ok (.getfield 28, 3) := by decide +kernel
theorem dX4_laysFrom_125 : decode cX4_laysFrom 125 = .ok (.iconst 5, 1) := by decide +kernel
theorem dX4_laysFrom_126 : decode cX4_laysFrom 126 = .ok (.aload_n 0, 1) := by decide +kernel
theorem dX4_laysFrom_127 : decode cX4_laysFrom 127 = .ok (.getfield 74, 3) := by decide +kernel
theorem dX4_laysFrom_130 : decode cX4_laysFrom 130 = .ok (.imul, 1) := by decide +kernel
theorem dX4_laysFrom_131 : decode cX4_laysFrom 131 = .ok (.iconst 4, 1) := by decide +kernel
theorem dX4_laysFrom_132 : decode cX4_laysFrom 132 = .ok (.iadd, 1) := by decide +kernel
theorem dX4_laysFrom_133 : decode cX4_laysFrom 133 = .ok (.iload 6, 2) := by decide +kernel
theorem dX4_laysFrom_135 : decode cX4_laysFrom 135 = .ok (.iastore, 1) := by decide +kernel
theorem dX4_laysFrom_136 : decode cX4_laysFrom 136 = .ok (.aload_n 0, 1) := by decide +kernel
theorem dX4_laysFrom_137 : decode cX4_laysFrom 137 = .ok (.dup, 1) := by decide +kernel
theorem dX4_laysFrom_138 : decode cX4_laysFrom 138 = .ok (.getfield 74, 3) := by decide +kernel
theorem dX4_laysFrom_141 : decode cX4_laysFrom 141 = .ok (.iconst 1, 1) := by decide +kernel
theorem dX4_laysFrom_142 : decode cX4_laysFrom 142 = .ok (.iadd, 1) := by decide +kernel
theorem dX4_laysFrom_143 : decode cX4_laysFrom 143 = .ok (.putfield 74, 3) := by decide +kernel
theorem dX4_laysFrom_146 : decode cX4_laysFrom 146 = .ok (.iinc 6 1, 3) := by decide +kernel
theorem dX4_laysFrom_149 : decode cX4_laysFrom 149 = .ok (.goto (-102), 3) := by decide +kernel
theorem dX4_laysFrom_152 : decode cX4_laysFrom 152 = .ok (.iinc 5 1, 3) := by decide +kernel
theorem dX4_laysFrom_155 : decode cX4_laysFrom 155 = .ok (.goto (-126), 3) := by decide +kernel
theorem dX4_laysFrom_158 : decode cX4_laysFrom 158 = .ok (.iinc 4 1, 3) := by decide +kernel
theorem dX4_laysFrom_161 : decode cX4_laysFrom 161 = .ok (.goto (-149), 3) := by decide +kernel
theorem dX4_laysFrom_164 : decode cX4_laysFrom 164 = .ok (.return_, 1) := by decide +kernel
theorem dX4_begins_0 : decode cX4_begins 0 = .ok (.iconst 0, 1) := by decide +kernel
theorem dX4_begins_1 : decode cX4_begins 1 = .ok (.istore_n 2, 1) := by decide +kernel
theorem dX4_begins_2 : decode cX4_begins 2 = .ok (.iload_n 2, 1) := by decide +kernel
theorem dX4_begins_3 : decode cX4_begins 3 = .ok (.bipush 56, 2) := by decide +kernel
theorem dX4_begins_5 : decode cX4_begins 5 = .ok (.if_icmp .ge 14, 3) := by decide +kernel
theorem dX4_begins_8 : decode cX4_begins 8 = .ok (.aload_n 0, 1) := by decide +kernel
theorem dX4_begins_9 : decode cX4_begins 9 = .ok (.iload_n 2, 1) := by decide +kernel
theorem dX4_begins_10 : decode cX4_begins 10 = .ok (.invokevirtual 81, 3) := by decide +kernel
theorem dX4_begins_13 : decode cX4_begins 13 = .ok (.iinc 2 1, 3) := by decide +kernel
theorem dX4_begins_16 : decode cX4_begins 16 = .ok (.goto (-14), 3) := by decide +kernel
theorem dX4_begins_19 : decode cX4_begins 19 = .ok (.sipush 227, 3) := by decide +kernel
theorem dX4_begins_22 : decode cX4_begins 22 = .ok (.istore_n 2, 1) := by decide +kernel
theorem dX4_begins_23 : decode cX4_begins 23 = .ok (.iload_n 2, 1) := by decide +kernel
theorem dX4_begins_24 : decode cX4_begins 24 = .ok (.sipush 243, 3) := by decide +kernel
theorem dX4_begins_27 : decode cX4_begins 27 = .ok (.if_icmp .ge 17, 3) := by decide +kernel
theorem dX4_begins_30 : decode cX4_begins 30 = .ok (.aload_n 0, 1) := by decide +kernel
theorem dX4_begins_31 : decode cX4_begins 31 = .ok (.getfield 7, 3) := by decide +kernel
theorem dX4_begins_34 : decode cX4_begins 34 = .ok (.iload_n 2, 1) := by decide +kernel
theorem dX4_begins_35 : decode cX4_begins 35 = .ok (.bipush (-100), 2) := by decide +kernel
theorem dX4_begins_37 : decode cX4_begins 37 = .ok (.iastore, 1) := by decide +kernel
theorem dX4_begins_38 : decode cX4_begins 38 = .ok (.iinc 2 1, 3) := by decide +kernel
theorem dX4_begins_41 : decode cX4_begins 41 = .ok (.goto (-18), 3) := by decide +kernel
theorem dX4_begins_44 : decode cX4_begins 44 = .ok (.aload_n 0, 1) := by decide +kernel
theorem dX4_begins_45 : decode cX4_begins 45 = .ok (.getfield 7, 3) := by decide +kernel
theorem dX4_begins_48 : decode cX4_begins 48 = .ok (.iconst 0, 1) := by decide +kernel
theorem dX4_begins_49 : decode cX4_begins 49 = .ok (.iload_n 1, 1) := by decide +kernel
theorem dX4_begins_50 : decode cX4_begins 50 = .ok (.iastore, 1) := by decide +kernel
theorem dX4_begins_51 : decode cX4_begins 51 = .ok (.aload_n 0, 1) := by decide +kernel
theorem dX4_begins_52 : decode cX4_begins 52 = .ok (.getfield 7, 3) := by decide +kernel
theorem dX4_begins_55 : decode cX4_begins 55 = .ok (.iconst 2, 1) := by decide +kernel
theorem dX4_begins_56 : decode cX4_begins 56 = .ok (.bipush (-100), 2) := by decide +kernel
theorem dX4_begins_58 : decode cX4_begins 58 = .ok (.iastore, 1) := by decide +kernel
theorem dX4_begins_59 : decode cX4_begins 59 = .ok (.aload_n 0, 1) := by decide +kernel
theorem dX4_begins_60 : decode cX4_begins 60 = .ok (.invokevirtual 84, 3) := by decide +kernel
theorem dX4_begins_63 : decode cX4_begins 63 = .ok (.return_, 1) := by decide +kernel
theorem dX4_get_0 : decode cX4_get 0 = .ok (.aload_n 0, 1) := by decide +kernel
theorem dX4_get_1 : decode cX4_get 1 = .ok (.getfield 7, 3) := by decide +kernel
theorem dX4_get_4 : decode cX4_get 4 = .ok (.iconst 3, 1) := by decide +kernel
theorem dX4_get_5 : decode cX4_get 5 = .ok (.iconst 4, 1) := by decide +kernel
theorem dX4_get_6 : decode cX4_get 6 = .ok (.iload_n 1, 1) := by decide +kernel
theorem dX4_get_7 : decode cX4_get 7 = .ok (.imul, 1) := by decide +kernel
theorem dX4_get_8 : decode cX4_get 8 = .ok (.iadd, 1) := by decide +kernel
theorem dX4_get_9 : decode cX4_get 9 = .ok (.iload_n 2, 1) := by decide +kernel
theorem dX4_get_10 : decode cX4_get 10 = .ok (.iadd, 1) := by decide +kernel
theorem dX4_get_11 : decode cX4_get 11 = .ok (.iaload, 1) := by decide +kernel
theorem dX4_get_12 : decode cX4_get 12 = .ok (.ireturn, 1) := by decide +kernel
theorem dX4_puts_0 : decode cX4_puts 0 = .ok (.aload_n 0, 1) := by decide +kernel
theorem dX4_puts_1 : decode cX4_puts 1 = .ok (.getfield 7, 3) := by decide +kernel
theorem dX4_puts_4 : decode cX4_puts 4 = .ok (.iconst 3, 1) := by decide +kernel
theorem dX4_puts_5 : decode cX4_puts 5 = .ok (.iconst 4, 1) := by decide +kernel
theorem dX4_puts_6 : decode cX4_puts 6 = .ok (.iload_n 1, 1) := by decide +kernel
theorem dX4_puts_7 : decode cX4_puts 7 = .ok (.imul, 1) := by decide +kernel
theorem dX4_puts_8 : decode cX4_puts 8 = .ok (.iadd, 1) := by decide +kernel
theorem dX4_puts_9 : decode cX4_puts 9 = .ok (.iload_n 2, 1) := by decide +kernel
theorem dX4_puts_10 : decode cX4_puts 10 = .ok (.iadd, 1) := by decide +kernel
theorem dX4_puts_11 : decode cX4_puts 11 = .ok (.iload_n 3, 1) := by decide +kernel
theorem dX4_puts_12 : decode cX4_puts 12 = .ok (.iastore, 1) := by decide +kernel
theorem dX4_puts_13 : decode cX4_puts 13 = .ok (.return_, 1) := by decide +kernel
theorem dX4_clears_0 : decode cX4_clears 0 = .ok (.aload_n 0, 1) := by decide +kernel
theorem dX4_clears_1 : decode cX4_clears 1 = .ok (.iload_n 1, 1) := by decide +kernel
theorem dX4_clears_2 : decode cX4_clears 2 = .ok (.iconst 0, 1) := by decide +kernel
theorem dX4_clears_3 : decode cX4_clears 3 = .ok (.bipush (-100), 2) := by decide +kernel
theorem dX4_clears_5 : decode cX4_clears 5 = .ok (.invokevirtual 87, 3) := by decide +kernel
theorem dX4_clears_8 : decode cX4_clears 8 = .ok (.aload_n 0, 1) := by decide +kernel
theorem dX4_clears_9 : decode cX4_clears 9 = .ok (.iload_n 1, 1) := by decide +kernel
theorem dX4_clears_10 : decode cX4_clears 10 = .ok (.iconst 1, 1) := by decide +kernel
theorem dX4_clears_11 : decode cX4_clears 11 = .ok (.iconst 0, 1) := by decide +kernel
theorem dX4_clears_12 : decode cX4_clears 12 = .ok (.invokevirtual 87, 3) := by decide +kernel
theorem dX4_clears_15 : decode cX4_clears 15 = .ok (.aload_n 0, 1) := by decide +kernel
theorem dX4_clears_16 : decode cX4_clears 16 = .ok (.iload_n 1, 1) := by decide +kernel
theorem dX4_clears_17 : decode cX4_clears 17 = .ok (.iconst 2, 1) := by decide +kernel
theorem dX4_clears_18 : decode cX4_clears 18 = .ok (.bipush (-100), 2) := by decide +kernel
theorem dX4_clears_20 : decode cX4_clears 20 = .ok (.invokevirtual 87, 3) := by decide +kernel
theorem dX4_clears_23 : decode cX4_clears 23 = .ok (.aload_n 0, 1) := by decide +kernel
theorem dX4_clears_24 : decode cX4_clears 24 = .ok (.iload_n 1, 1) := by decide +kernel
theorem dX4_clears_25 : decode cX4_clears 25 = .ok (.iconst 3, 1) := by decide +kernel
theorem dX4_clears_26 : decode cX4_clears 26 = .ok (.bipush (-100), 2) := by decide +kernel
theorem dX4_clears_28 : decode cX4_clears 28 = .ok (.invokevirtual 87, 3) := by decide +kernel
theorem dX4_clears_31 : decode cX4_clears 31 = .ok (.return_, 1) := by decide +kernel
theorem dX4_isPoint_0 : decode cX4_isPoint 0 = .ok (.iload_n 1, 1) := by decide +kernel
theorem dX4_isPoint_1 : decode cX4_isPoint 1 = .ok (.iconst 0, 1) := by decide +kernel
theorem dX4_isPoint_2 : decode cX4_isPoint 2 = .ok (.aload_n 0, 1) := by decide +kernel
theorem dX4_isPoint_3 : decode cX4_isPoint 3 = .ok (.getfield 7, 3) := by decide +kernel
theorem dX4_isPoint_6 : decode cX4_isPoint 6 = .ok (.iconst 0, 1) := by decide +kernel
theorem dX4_isPoint_7 : decode cX4_isPoint 7 = .ok (.iaload, 1) := by decide +kernel
theorem dX4_isPoint_8 : decode cX4_isPoint 8 = .ok (.iconst 1, 1) := by decide +kernel
theorem dX4_isPoint_9 : decode cX4_isPoint 9 = .ok (.isub, 1) := by decide +kernel
theorem dX4_isPoint_10 : decode cX4_isPoint 10 = .ok (.invokestatic 91, 3) := by decide +kernel
theorem dX4_isPoint_13 : decode cX4_isPoint 13 = .ok (.ireturn, 1) := by decide +kernel
theorem dX4_arePoints_0 : decode cX4_arePoints 0 = .ok (.aload_n 0, 1) := by decide +kernel
theorem dX4_arePoints_1 : decode cX4_arePoints 1 = .ok (.iload_n 1, 1) := by decide +kernel
theorem dX4_arePoints_2 : decode cX4_arePoints 2 = .ok (.invokevirtual 95, 3) := by decide +kernel
theorem dX4_arePoints_5 : decode cX4_arePoints 5 = .ok (.ifCond .eq 23, 3) := by decide +kernel
theorem dX4_arePoints_8 : decode cX4_arePoints 8 = .ok (.aload_n 0, 1) := by decide +kernel
theorem dX4_arePoints_9 : decode cX4_arePoints 9 = .ok (.iload_n 2, 1) := by decide +kernel
theorem dX4_arePoints_10 : decode cX4_arePoints 10 = .ok (.invokevirtual 95, 3) := by decide +kernel
theorem dX4_arePoints_13 : decode cX4_arePoints 13 = .ok (.ifCond .eq 15, 3) := by decide +kernel
theorem dX4_arePoints_16 : decode cX4_arePoints 16 = .ok (.aload_n 0, 1) := by decide +kernel
theorem dX4_arePoints_17 : decode cX4_arePoints 17 = .ok (.iload_n 3, 1) := by decide +kernel
theorem dX4_arePoints_18 : decode cX4_arePoints 18 = .ok (.invokevirtual 95, 3) := by decide +kernel
theorem dX4_arePoints_21 : decode cX4_arePoints 21 = .ok (.ifCond .eq 7, 3) := by decide +kernel
theorem dX4_arePoints_24 : decode cX4_arePoints 24 = .ok (.iconst 1, 1) := by decide +kernel
theorem dX4_arePoints_25 : decode cX4_arePoints 25 = .ok (.goto 4, 3) := by decide +kernel
theorem dX4_arePoints_28 : decode cX4_arePoints 28 = .ok (.iconst 0, 1) := by decide +kernel
theorem dX4_arePoints_29 : decode cX4_arePoints 29 = .ok (.ireturn, 1) := by decide +kernel
theorem dX4_differ_0 : decode cX4_differ 0 = .ok (.iload_n 0, 1) := by decide +kernel
theorem dX4_differ_1 : decode cX4_differ 1 = .ok (.iload_n 1, 1) := by decide +kernel
theorem dX4_differ_2 : decode cX4_differ 2 = .ok (.if_icmp .eq 17, 3) := by decide +kernel
theorem dX4_differ_5 : decode cX4_differ 5 = .ok (.iload_n 0, 1) := by decide +kernel
theorem dX4_differ_6 : decode cX4_differ 6 = .ok (.iload_n 2, 1) := by decide +kernel
theorem dX4_differ_7 : decode cX4_differ 7 = .ok (.if_icmp .eq 12, 3) := by decide +kernel
theorem dX4_differ_10 : decode cX4_differ 10 = .ok (.iload_n 1, 1) := by decide +kernel
theorem dX4_differ_11 : decode cX4_differ 11 = .ok (.iload_n 2, 1) := by decide +kernel
theorem dX4_differ_12 : decode cX4_differ 12 = .ok (.if_icmp .eq 7, 3) := by decide +kernel
theorem dX4_differ_15 : decode cX4_differ 15 = .ok (.iconst 1, 1) := by decide +kernel
theorem dX4_differ_16 : decode cX4_differ 16 = .ok (.goto 4, 3) := by decide +kernel
theorem dX4_differ_19 : decode cX4_differ 19 = .ok (.iconst 0, 1) := by decide +kernel
theorem dX4_differ_20 : decode cX4_differ 20 = .ok (.ireturn, 1) := by decide +kernel
theorem dX4_tripleOf_0 : decode cX4_tripleOf 0 = .ok (.iload_n 1, 1) := by decide +kernel
theorem dX4_tripleOf_1 : decode cX4_tripleOf 1 = .ok (.iload_n 2, 1) := by decide +kernel
theorem dX4_tripleOf_2 : decode cX4_tripleOf 2 = .ok (.if_icmp .ge 16, 3) := by decide +kernel
theorem dX4_tripleOf_5 : decode cX4_tripleOf 5 = .ok (.iload_n 1, 1) := by decide +kernel
theorem dX4_tripleOf_6 : decode cX4_tripleOf 6 = .ok (.iload_n 3, 1) := by decide +kernel
theorem dX4_tripleOf_7 : decode cX4_tripleOf 7 = .ok (.if_icmp .ge 7, 3) := by decide +kernel
theorem dX4_tripleOf_10 : decode cX4_tripleOf 10 = .ok (.iload_n 1, 1) := by decide +kernel
theorem dX4_tripleOf_11 : decode cX4_tripleOf 11 = .ok (.goto 17, 3) := by decide +kernel
theorem dX4_tripleOf_14 : decode cX4_tripleOf 14 = .ok (.iload_n 3, 1) := by decide +kernel
theorem dX4_tripleOf_15 : decode cX4_tripleOf 15 = .ok (.goto 13, 3) := by decide +kernel
theorem dX4_tripleOf_18 : decode cX4_tripleOf 18 = .ok (.iload_n 2, 1) := by decide +kernel
theorem dX4_tripleOf_19 : decode cX4_tripleOf 19 = .ok (.iload_n 3, 1) := by decide +kernel
theorem dX4_tripleOf_20 : decode cX4_tripleOf 20 = .ok (.if_icmp .ge 7, 3) := by decide +kernel
theorem dX4_tripleOf_23 : decode cX4_tripleOf 23 = .ok (.iload_n 2, 1) := by decide +kernel
theorem dX4_tripleOf_24 : decode cX4_tripleOf 24 = .ok (.goto 4, 3) := by decide +kernel
theorem dX4_tripleOf_27 : decode cX4_tripleOf 27 = .ok (.iload_n 3, 1) := by decide +kernel
theorem dX4_tripleOf_28 : decode cX4_tripleOf 28 = .ok (.istore 4, 2) := by decide +kernel
theorem dX4_tripleOf_30 : decode cX4_tripleOf 30 = .ok (.iload_n 1, 1) := by decide +kernel
theorem dX4_tripleOf_31 : decode cX4_tripleOf 31 = .ok (.iload_n 2, 1) := by decide +kernel
theorem dX4_tripleOf_32 : decode cX4_tripleOf 32 = .ok (.if_icmp .le 16, 3) := by decide +kernel
theorem dX4_tripleOf_35 : decode cX4_tripleOf 35 = .ok (.iload_n 1, 1) := by decide +kernel
theorem dX4_tripleOf_36 : decode cX4_tripleOf 36 = .ok (.iload_n 3, 1) := by decide +kernel
theorem dX4_tripleOf_37 : decode cX4_tripleOf 37 = .ok (.if_icmp .le 7, 3) := by decide +kernel
theorem dX4_tripleOf_40 : decode cX4_tripleOf 40 = .ok (.iload_n 1, 1) := by decide +kernel
theorem dX4_tripleOf_41 : decode cX4_tripleOf 41 = .ok (.goto 17, 3) := by decide +kernel
theorem dX4_tripleOf_44 : decode cX4_tripleOf 44 = .ok (.iload_n 3, 1) := by decide +kernel
theorem dX4_tripleOf_45 : decode cX4_tripleOf 45 = .ok (.goto 13, 3) := by decide +kernel
theorem dX4_tripleOf_48 : decode cX4_tripleOf 48 = .ok (.iload_n 2, 1) := by decide +kernel
theorem dX4_tripleOf_49 : decode cX4_tripleOf 49 = .ok (.iload_n 3, 1) := by decide +kernel
theorem dX4_tripleOf_50 : decode cX4_tripleOf 50 = .ok (.if_icmp .le 7, 3) := by decide +kernel
theorem dX4_tripleOf_53 : decode cX4_tripleOf 53 = .ok (.iload_n 2, 1) := by decide +kernel
theorem dX4_tripleOf_54 : decode cX4_tripleOf 54 = .ok (.goto 4, 3) := by decide +kernel
theorem dX4_tripleOf_57 : decode cX4_tripleOf 57 = .ok (.iload_n 3, 1) := by decide +kernel
theorem dX4_tripleOf_58 : decode cX4_tripleOf 58 = .ok (.istore 5, 2) := by decide +kernel
theorem dX4_tripleOf_60 : decode cX4_tripleOf 60 = .ok (.aload_n 0, 1) := by decide +kernel
theorem dX4_tripleOf_61 : decode cX4_tripleOf 61 = .ok (.getfield 25, 3) := by decide +kernel
theorem dX4_tripleOf_64 : decode cX4_tripleOf 64 = .ok (.bipush 64, 2) := by decide +kernel
theorem dX4_tripleOf_66 : decode cX4_tripleOf 66 = .ok (.iload 4, 2) := by decide +kernel
theorem dX4_tripleOf_68 : decode cX4_tripleOf 68 = .ok (.imul, 1) := by decide +kernel
theorem dX4_tripleOf_69 : decode cX4_tripleOf 69 = .ok (.bipush 8, 2) := by decide +kernel
theorem dX4_tripleOf_71 : decode cX4_tripleOf 71 = .ok (.iload_n 1, 1) := by decide +kernel
theorem dX4_tripleOf_72 : decode cX4_tripleOf 72 = .ok (.iload_n 2, 1) := by decide +kernel
theorem dX4_tripleOf_73 : decode cX4_tripleOf 73 = .ok (.iadd, 1) := by decide +kernel
theorem dX4_tripleOf_74 : decode cX4_tripleOf 74 = .ok (.iload_n 3, 1) := by decide +kernel
theorem dX4_tripleOf_75 : decode cX4_tripleOf 75 = .ok (.iadd, 1) := by decide +kernel
theorem dX4_tripleOf_76 : decode cX4_tripleOf 76 = .ok (.iload 4, 2) := by decide +kernel
theorem dX4_tripleOf_78 : decode cX4_tripleOf 78 = .ok (.isub, 1) := by decide +kernel
theorem dX4_tripleOf_79 : decode cX4_tripleOf 79 = .ok (.iload 5, 2) := by decide +kernel
theorem dX4_tripleOf_81 : decode cX4_tripleOf 81 = .ok (.isub, 1) := by decide +kernel
theorem dX4_tripleOf_82 : decode cX4_tripleOf 82 = .ok (.imul, 1) := by decide +kernel
theorem dX4_tripleOf_83 : decode cX4_tripleOf 83 = .ok (.iadd, 1) := by decide +kernel
theorem dX4_tripleOf_84 : decode cX4_tripleOf 84 = .ok (.iload 5, 2) := by decide +kernel
theorem dX4_tripleOf_86 : decode cX4_tripleOf 86 = .ok (.iadd, 1) := by decide +kernel
theorem dX4_tripleOf_87 : decode cX4_tripleOf 87 = .ok (.iaload, 1) := by decide +kernel
theorem dX4_tripleOf_88 : decode cX4_tripleOf 88 = .ok (.ireturn, 1) := by decide +kernel
theorem dX4_parity_0 : decode cX4_parity 0 = .ok (.iload_n 0, 1) := by decide +kernel
theorem dX4_parity_1 : decode cX4_parity 1 = .ok (.iload_n 1, 1) := by decide +kernel
theorem dX4_parity_2 : decode cX4_parity 2 = .ok (.if_icmp .le 7, 3) := by decide +kernel
theorem dX4_parity_5 : decode cX4_parity 5 = .ok (.iconst 1, 1) := by decide +kernel
theorem dX4_parity_6 : decode cX4_parity 6 = .ok (.goto 4, 3) := by decide +kernel
theorem dX4_parity_9 : decode cX4_parity 9 = .ok (.iconst 0, 1) := by decide +kernel
theorem dX4_parity_10 : decode cX4_parity 10 = .ok (.iload_n 0, 1) := by decide +kernel
theorem dX4_parity_11 : decode cX4_parity 11 = .ok (.iload_n 2, 1) := by decide +kernel
theorem dX4_parity_12 : decode cX4_parity 12 = .ok (.if_icmp .le 7, 3) := by decide +kernel
theorem dX4_parity_15 : decode cX4_parity 15 = .ok (.iconst 1, 1) := by decide +kernel
theorem dX4_parity_16 : decode cX4_parity 16 = .ok (.goto 4, 3) := by decide +kernel
theorem dX4_parity_19 : decode cX4_parity 19 = .ok (.iconst 0, 1) := by decide +kernel
theorem dX4_parity_20 : decode cX4_parity 20 = .ok (.iadd, 1) := by decide +kernel
theorem dX4_parity_21 : decode cX4_parity 21 = .ok (.iload_n 1, 1) := by decide +kernel
theorem dX4_parity_22 : decode cX4_parity 22 = .ok (.iload_n 2, 1) := by decide +kernel
theorem dX4_parity_23 : decode cX4_parity 23 = .ok (.if_icmp .le 7, 3) := by decide +kernel
theorem dX4_parity_26 : decode cX4_parity 26 = .ok (.iconst 1, 1) := by decide +kernel
theorem dX4_parity_27 : decode cX4_parity 27 = .ok (.goto 4, 3) := by decide +kernel
theorem dX4_parity_30 : decode cX4_parity 30 = .ok (.iconst 0, 1) := by decide +kernel
theorem dX4_parity_31 : decode cX4_parity 31 = .ok (.iadd, 1) := by decide +kernel
theorem dX4_parity_32 : decode cX4_parity 32 = .ok (.istore_n 3, 1) := by decide +kernel
theorem dX4_parity_33 : decode cX4_parity 33 = .ok (.iload_n 3, 1) := by decide +kernel
theorem dX4_parity_34 : decode cX4_parity 34 = .ok (.iconst 2, 1) := by decide +kernel
theorem dX4_parity_35 : decode cX4_parity 35 = .ok (.irem, 1) := by decide +kernel
theorem dX4_parity_36 : decode cX4_parity 36 = .ok (.ifCond .ne 7, 3) := by decide +kernel
theorem dX4_parity_39 : decode cX4_parity 39 = .ok (.iconst 1, 1) := by decide +kernel
theorem dX4_parity_40 : decode cX4_parity 40 = .ok (.goto 4, 3) := by decide +kernel
theorem dX4_parity_43 : decode cX4_parity 43 = .ok (.iconst (-1), 1) := by decide +kernel
theorem dX4_parity_44 : decode cX4_parity 44 = .ok (.ireturn, 1) := by decide +kernel
theorem dX4_signOf_0 : decode cX4_signOf 0 = .ok (.iload_n 1, 1) := by decide +kernel
theorem dX4_signOf_1 : decode cX4_signOf 1 = .ok (.iload_n 2, 1) := by decide +kernel
theorem dX4_signOf_2 : decode cX4_signOf 2 = .ok (.iload_n 3, 1) := by decide +kernel
theorem dX4_signOf_3 : decode cX4_signOf 3 = .ok (.invokestatic 99, 3) := by decide +kernel
theorem dX4_signOf_6 : decode cX4_signOf 6 = .ok (.ifCond .ne 5, 3) := by decide +kernel
theorem dX4_signOf_9 : decode cX4_signOf 9 = .ok (.iconst 0, 1) := by decide +kernel
theorem dX4_signOf_10 : decode cX4_signOf 10 = .ok (.ireturn, 1) := by decide +kernel
theorem dX4_signOf_11 : decode cX4_signOf 11 = .ok (.aload_n 0, 1) := by decide +kernel
theorem dX4_signOf_12 : decode cX4_signOf 12 = .ok (.aload_n 0, 1) := by decide +kernel
theorem dX4_signOf_13 : decode cX4_signOf 13 = .ok (.iload_n 1, 1) := by decide +kernel
theorem dX4_signOf_14 : decode cX4_signOf 14 = .ok (.iload_n 2, 1) := by decide +kernel
theorem dX4_signOf_15 : decode cX4_signOf 15 = .ok (.iload_n 3, 1) := by decide +kernel
theorem dX4_signOf_16 : decode cX4_signOf 16 = .ok (.invokevirtual 102, 3) := by decide +kernel
theorem dX4_signOf_19 : decode cX4_signOf 19 = .ok (.iconst 0, 1) := by decide +kernel
theorem dX4_signOf_20 : decode cX4_signOf 20 = .ok (.invokevirtual 106, 3) := by decide +kernel
theorem dX4_signOf_23 : decode cX4_signOf 23 = .ok (.istore 4, 2) := by decide +kernel
theorem dX4_signOf_25 : decode cX4_signOf 25 = .ok (.iload 4, 2) := by decide +kernel
theorem dX4_signOf_27 : decode cX4_signOf 27 = .ok (.bipush (-100), 2) := by decide +kernel
theorem dX4_signOf_29 : decode cX4_signOf 29 = .ok (.if_icmp .ne 8, 3) := by decide +kernel
theorem dX4_signOf_32 : decode cX4_signOf 32 = .ok (.bipush (-100), 2) := by decide +kernel
theorem dX4_signOf_34 : decode cX4_signOf 34 = .ok (.goto 12, 3) := by decide +kernel
theorem dX4_signOf_37 : decode cX4_signOf 37 = .ok (.iload 4, 2) := by decide +kernel
theorem dX4_signOf_39 : decode cX4_signOf 39 = .ok (.iload_n 1, 1) := by decide +kernel
theorem dX4_signOf_40 : decode cX4_signOf 40 = .ok (.iload_n 2, 1) := by decide +kernel
theorem dX4_signOf_41 : decode cX4_signOf 41 = .ok (.iload_n 3, 1) := by decide +kernel
theorem dX4_signOf_42 : decode cX4_signOf 42 = .ok (.invokestatic 110, 3) := by decide +kernel
theorem dX4_signOf_45 : decode cX4_signOf 45 = .ok (.imul, 1) := by decide +kernel
theorem dX4_signOf_46 : decode cX4_signOf 46 = .ok (.ireturn, 1) := by decide +kernel
theorem dX4_many_0 : decode cX4_many 0 = .ok (.iconst 0, 1) := by decide +kernel
theorem dX4_many_1 : decode cX4_many 1 = .ok (.istore_n 2, 1) := by decide +kernel
theorem dX4_many_2 : decode cX4_many 2 = .ok (.iconst 0, 1) := by decide +kernel
theorem dX4_many_3 : decode cX4_many 3 = .ok (.istore_n 3, 1) := by decide +kernel
theorem dX4_many_4 : decode cX4_many 4 = .ok (.iload_n 3, 1) := by decide +kernel
theorem dX4_many_5 : decode cX4_many 5 = .ok (.aload_n 0, 1) := by decide +kernel
theorem dX4_many_6 : decode cX4_many 6 = .ok (.getfield 71, 3) := by decide +kernel
theorem dX4_many_9 : decode cX4_many 9 = .ok (.if_icmp .ge 27, 3) := by decide +kernel
theorem dX4_many_12 : decode cX4_many 12 = .ok (.iload_n 2, 1) := by decide +kernel
theorem dX4_many_13 : decode cX4_many 13 = .ok (.aload_n 0, 1) := by decide +kernel
theorem dX4_many_14 : decode cX4_many 14 = .ok (.iload_n 3, 1) := by decide +kernel
theorem dX4_many_15 : decode cX4_many 15 = .ok (.iconst 1, 1) := by decide +kernel
theorem dX4_many_16 : decode cX4_many 16 = .ok (.invokevirtual 106, 3) := by decide +kernel
theorem dX4_many_19 : decode cX4_many 19 = .ok (.iload_n 1, 1) := by decide +kernel
theorem dX4_many_20 : decode cX4_many 20 = .ok (.if_icmp .ne 7, 3) := by decide +kernel
theorem dX4_many_23 : decode cX4_many 23 = .ok (.iconst 1, 1) := by decide +kernel
theorem dX4_many_24 : decode cX4_many 24 = .ok (.goto 4, 3) := by decide +kernel
theorem dX4_many_27 : decode cX4_many 27 = .ok (.iconst 0, 1) := by decide +kernel
theorem dX4_many_28 : decode cX4_many 28 = .ok (.iadd, 1) := by decide +kernel
theorem dX4_many_29 : decode cX4_many 29 = .ok (.istore_n 2, 1) := by decide +kernel
theorem dX4_many_30 : decode cX4_many 30 = .ok (.iinc 3 1, 3) := by decide +kernel
theorem dX4_many_33 : decode cX4_many 33 = .ok (.goto (-29), 3) := by decide +kernel
theorem dX4_many_36 : decode cX4_many 36 = .ok (.iload_n 2, 1) := by decide +kernel
theorem dX4_many_37 : decode cX4_many 37 = .ok (.ireturn, 1) := by decide +kernel
theorem dX4_forgets_0 : decode cX4_forgets 0 = .ok (.iconst 0, 1) := by decide +kernel
theorem dX4_forgets_1 : decode cX4_forgets 1 = .ok (.istore_n 1, 1) := by decide +kernel
theorem dX4_forgets_2 : decode cX4_forgets 2 = .ok (.iconst 0, 1) := by decide +kernel
theorem dX4_forgets_3 : decode cX4_forgets 3 = .ok (.istore_n 2, 1) := by decide +kernel
theorem dX4_forgets_4 : decode cX4_forgets 4 = .ok (.iload_n 2, 1) := by decide +kernel
theorem dX4_forgets_5 : decode cX4_forgets 5 = .ok (.aload_n 0, 1) := by decide +kernel
theorem dX4_forgets_6 : decode cX4_forgets 6 = .ok (.getfield 71, 3) := by decide +kernel
theorem dX4_forgets_9 : decode cX4_forgets 9 = .ok (.if_icmp .ge 27, 3) := by decide +kernel
theorem dX4_forgets_12 : decode cX4_forgets 12 = .ok (.aload_n 0, 1) := by decide +kernel
theorem dX4_forgets_13 : decode cX4_forgets 13 = .ok (.iload_n 2, 1) := by decide +kernel
theorem dX4_forgets_14 : decode cX4_forgets 14 = .ok (.iconst 1, 1) := by decide +kernel
theorem dX4_forgets_15 : decode cX4_forgets 15 = .ok (.invokevirtual 106, 3) := by decide +kernel
theorem dX4_forgets_18 : decode cX4_forgets 18 = .ok (.iconst 2, 1) := by decide +kernel
theorem dX4_forgets_19 : decode cX4_forgets 19 = .ok (.if_icmp .ne 11, 3) := by decide +kernel
theorem dX4_forgets_22 : decode cX4_forgets 22 = .ok (.aload_n 0, 1) := by decide +kernel
theorem dX4_forgets_23 : decode cX4_forgets 23 = .ok (.iload_n 2, 1) := by decide +kernel
theorem dX4_forgets_24 : decode cX4_forgets 24 = .ok (.invokevirtual 81, 3) := by decide +kernel
theorem dX4_forgets_27 : decode cX4_forgets 27 = .ok (.iinc 1 1, 3) := by decide +kernel
theorem dX4_forgets_30 : decode cX4_forgets 30 = .ok (.iinc 2 1, 3) := by decide +kernel
theorem dX4_forgets_33 : decode cX4_forgets 33 = .ok (.goto (-29), 3) := by decide +kernel
theorem dX4_forgets_36 : decode cX4_forgets 36 = .ok (.aload_n 0, 1) := by decide +kernel
theorem dX4_forgets_37 : decode cX4_forgets 37 = .ok (.getfield 7, 3) := by decide +kernel
theorem dX4_forgets_40 : decode cX4_forgets 40 = .ok (.iconst 2, 1) := by decide +kernel
theorem dX4_forgets_41 : decode cX4_forgets 41 = .ok (.bipush (-100), 2) := by decide +kernel
theorem dX4_forgets_43 : decode cX4_forgets 43 = .ok (.iastore, 1) := by decide +kernel
theorem dX4_forgets_44 : decode cX4_forgets 44 = .ok (.iload_n 1, 1) := by decide +kernel
theorem dX4_forgets_45 : decode cX4_forgets 45 = .ok (.ireturn, 1) := by decide +kernel
theorem dX4_begin_0 : decode cX4_begin 0 = .ok (.iload_n 1, 1) := by decide +kernel
theorem dX4_begin_1 : decode cX4_begin 1 = .ok (.iconst 3, 1) := by decide +kernel
theorem dX4_begin_2 : decode cX4_begin 2 = .ok (.bipush 8, 2) := by decide +kernel
theorem dX4_begin_4 : decode cX4_begin 4 = .ok (.invokestatic 91, 3) := by decide +kernel
theorem dX4_begin_7 : decode cX4_begin 7 = .ok (.ifCond .ne 9, 3) := by decide +kernel
theorem dX4_begin_10 : decode cX4_begin 10 = .ok (.aload_n 0, 1) := by decide +kernel
theorem dX4_begin_11 : decode cX4_begin 11 = .ok (.iconst 1, 1) := by decide +kernel
theorem dX4_begin_12 : decode cX4_begin 12 = .ok (.invokevirtual 113, 3) := by decide +kernel
theorem dX4_begin_15 : decode cX4_begin 15 = .ok (.ireturn, 1) := by decide +kernel
theorem dX4_begin_16 : decode cX4_begin 16 = .ok (.aload_n 0, 1) := by decide +kernel
theorem dX4_begin_17 : decode cX4_begin 17 = .ok (.invokevirtual 116, 3) := by decide +kernel
theorem dX4_begin_20 : decode cX4_begin 20 = .ok (.aload_n 0, 1) := by decide +kernel
theorem dX4_begin_21 : decode cX4_begin 21 = .ok (.iload_n 1, 1) := by decide +kernel
theorem dX4_begin_22 : decode cX4_begin 22 = .ok (.invokevirtual 56, 3) := by decide +kernel
theorem dX4_begin_25 : decode cX4_begin 25 = .ok (.aload_n 0, 1) := by decide +kernel
theorem dX4_begin_26 : decode cX4_begin 26 = .ok (.aload_n 0, 1) := by decide +kernel
theorem dX4_begin_27 : decode cX4_begin 27 = .ok (.getfield 71, 3) := by decide +kernel
theorem dX4_begin_30 : decode cX4_begin 30 = .ok (.invokevirtual 119, 3) := by decide +kernel
theorem dX4_begin_33 : decode cX4_begin 33 = .ok (.ireturn, 1) := by decide +kernel
theorem dX4_gives_0 : decode cX4_gives 0 = .ok (.aload_n 0, 1) := by decide +kernel
theorem dX4_gives_1 : decode cX4_gives 1 = .ok (.iload_n 1, 1) := by decide +kernel
theorem dX4_gives_2 : decode cX4_gives 2 = .ok (.iconst 1, 1) := by decide +kernel
theorem dX4_gives_3 : decode cX4_gives 3 = .ok (.invokevirtual 106, 3) := by decide +kernel
theorem dX4_gives_6 : decode cX4_gives 6 = .ok (.istore_n 3, 1) := by decide +kernel
theorem dX4_gives_7 : decode cX4_gives 7 = .ok (.iload_n 3, 1) := by decide +kernel
theorem dX4_gives_8 : decode cX4_gives 8 = .ok (.iconst 1, 1) := by decide +kernel
theorem dX4_gives_9 : decode cX4_gives 9 = .ok (.if_icmp .ne 14, 3) := by decide +kernel
theorem dX4_gives_12 : decode cX4_gives 12 = .ok (.aload_n 0, 1) := by decide +kernel
theorem dX4_gives_13 : decode cX4_gives 13 = .ok (.iload_n 1, 1) := by decide +kernel
theorem dX4_gives_14 : decode cX4_gives 14 = .ok (.iconst 0, 1) := by decide +kernel
theorem dX4_gives_15 : decode cX4_gives 15 = .ok (.invokevirtual 106, 3) := by decide +kernel
theorem dX4_gives_18 : decode cX4_gives 18 = .ok (.iload_n 2, 1) := by decide +kernel
theorem dX4_gives_19 : decode cX4_gives 19 = .ok (.if_icmp .ne 4, 3) := by decide +kernel
theorem dX4_gives_22 : decode cX4_gives 22 = .ok (.return_, 1) := by decide +kernel
theorem dX4_gives_23 : decode cX4_gives 23 = .ok (.iload_n 3, 1) := by decide +kernel
theorem dX4_gives_24 : decode cX4_gives 24 = .ok (.ifCond .eq 10, 3) := by decide +kernel
theorem dX4_gives_27 : decode cX4_gives 27 = .ok (.aload_n 0, 1) := by decide +kernel
theorem dX4_gives_28 : decode cX4_gives 28 = .ok (.invokevirtual 122, 3) := by decide +kernel
theorem dX4_gives_31 : decode cX4_gives 31 = .ok (.goto 4, 3) := by decide +kernel
theorem dX4_gives_34 : decode cX4_gives 34 = .ok (.iconst 0, 1) := by decide +kernel
theorem dX4_gives_35 : decode cX4_gives 35 = .ok (.istore 4, 2) := by decide +kernel
theorem dX4_gives_37 : decode cX4_gives 37 = .ok (.aload_n 0, 1) := by decide +kernel
theorem dX4_gives_38 : decode cX4_gives 38 = .ok (.getfield 7, 3) := by decide +kernel
theorem dX4_gives_41 : decode cX4_gives 41 = .ok (.iconst 2, 1) := by decide +kernel
theorem dX4_gives_42 : decode cX4_gives 42 = .ok (.bipush (-100), 2) := by decide +kernel
theorem dX4_gives_44 : decode cX4_gives 44 = .ok (.iastore, 1) := by decide +kernel
theorem dX4_gives_45 : decode cX4_gives 45 = .ok (.aload_n 0, 1) := by decide +kernel
theorem dX4_gives_46 : decode cX4_gives 46 = .ok (.iload_n 1, 1) := by decide +kernel
theorem dX4_gives_47 : decode cX4_gives 47 = .ok (.invokevirtual 81, 3) := by decide +kernel
theorem dX4_gives_50 : decode cX4_gives 50 = .ok (.aload_n 0, 1) := by decide +kernel
theorem dX4_gives_51 : decode cX4_gives 51 = .ok (.iload_n 1, 1) := by decide +kernel
theorem dX4_gives_52 : decode cX4_gives 52 = .ok (.iconst 0, 1) := by decide +kernel
theorem dX4_gives_53 : decode cX4_gives 53 = .ok (.iload_n 2, 1) := by decide +kernel
theorem dX4_gives_54 : decode cX4_gives 54 = .ok (.invokevirtual 87, 3) := by decide +kernel
theorem dX4_gives_57 : decode cX4_gives 57 = .ok (.aload_n 0, 1) := by decide +kernel
theorem dX4_gives_58 : decode cX4_gives 58 = .ok (.iload_n 1, 1) := by decide +kernel
theorem dX4_gives_59 : decode cX4_gives 59 = .ok (.iconst 1, 1) := by decide +kernel
theorem dX4_gives_60 : decode cX4_gives 60 = .ok (.iconst 1, 1) := by decide +kernel
theorem dX4_gives_61 : decode cX4_gives 61 = .ok (.invokevirtual 87, 3) := by decide +kernel
theorem dX4_gives_64 : decode cX4_gives 64 = .ok (.return_, 1) := by decide +kernel
theorem dX4_givesTo_0 : decode cX4_givesTo 0 = .ok (.aload_n 0, 1) := by decide +kernel
theorem dX4_givesTo_1 : decode cX4_givesTo 1 = .ok (.iload_n 1, 1) := by decide +kernel
theorem dX4_givesTo_2 : decode cX4_givesTo 2 = .ok (.iload_n 2, 1) := by decide +kernel
theorem dX4_givesTo_3 : decode cX4_givesTo 3 = .ok (.iload_n 3, 1) := by decide +kernel
theorem dX4_givesTo_4 : decode cX4_givesTo 4 = .ok (.invokevirtual 126, 3) := by decide +kernel
theorem dX4_givesTo_7 : decode cX4_givesTo 7 = .ok (.ifCond .ne 5, 3) := by decide +kernel
theorem dX4_givesTo_10 : decode cX4_givesTo 10 = .ok (.iconst 1, 1) := by decide +kernel
theorem dX4_givesTo_11 : decode cX4_givesTo 11 = .ok (.ireturn, 1) := by decide +kernel
theorem dX4_givesTo_12 : decode cX4_givesTo 12 = .ok (.iload_n 1, 1) := by decide +kernel
theorem dX4_givesTo_13 : decode cX4_givesTo 13 = .ok (.iload_n 2, 1) := by decide +kernel
theorem dX4_givesTo_14 : decode cX4_givesTo 14 = .ok (.iload_n 3, 1) := by decide +kernel
theorem dX4_givesTo_15 : decode cX4_givesTo 15 = .ok (.invokestatic 99, 3) := by decide +kernel
theorem dX4_givesTo_18 : decode cX4_givesTo 18 = .ok (.ifCond .eq 13, 3) := by decide +kernel
theorem dX4_givesTo_21 : decode cX4_givesTo 21 = .ok (.iload 4, 2) := by decide +kernel
theorem dX4_givesTo_23 : decode cX4_givesTo 23 = .ok (.iconst (-1), 1) := by decide +kernel
theorem dX4_givesTo_24 : decode cX4_givesTo 24 = .ok (.iconst 1, 1) := by decide +kernel
theorem dX4_givesTo_25 : decode cX4_givesTo 25 = .ok (.invokestatic 91, 3) := by decide +kernel
theorem dX4_givesTo_28 : decode cX4_givesTo 28 = .ok (.ifCond .ne 5, 3) := by decide +kernel
theorem dX4_givesTo_31 : decode cX4_givesTo 31 = .ok (.iconst 2, 1) := by decide +kernel
theorem dX4_givesTo_32 : decode cX4_givesTo 32 = .ok (.ireturn, 1) := by decide +kernel
theorem dX4_givesTo_33 : decode cX4_givesTo 33 = .ok (.aload_n 0, 1) := by decide +kernel
theorem dX4_givesTo_34 : decode cX4_givesTo 34 = .ok (.aload_n 0, 1) := by decide +kernel
theorem dX4_givesTo_35 : decode cX4_givesTo 35 = .ok (.iload_n 1, 1) := by decide +kernel
theorem dX4_givesTo_36 : decode cX4_givesTo 36 = .ok (.iload_n 2, 1) := by decide +kernel
theorem dX4_givesTo_37 : decode cX4_givesTo 37 = .ok (.iload_n 3, 1) := by decide +kernel
theorem dX4_givesTo_38 : decode cX4_givesTo 38 = .ok (.invokevirtual 129, 3) := by decide +kernel
theorem dX4_givesTo_41 : decode cX4_givesTo 41 = .ok (.putfield 132, 3) := by decide +kernel
theorem dX4_givesTo_44 : decode cX4_givesTo 44 = .ok (.aload_n 0, 1) := by decide +kernel
theorem dX4_givesTo_45 : decode cX4_givesTo 45 = .ok (.aload_n 0, 1) := by decide +kernel
theorem dX4_givesTo_46 : decode cX4_givesTo 46 = .ok (.iload_n 1, 1) := by decide +kernel
theorem dX4_givesTo_47 : decode cX4_givesTo 47 = .ok (.iload_n 2, 1) := by decide +kernel
theorem dX4_givesTo_48 : decode cX4_givesTo 48 = .ok (.iload_n 3, 1) := by decide +kernel
theorem dX4_givesTo_49 : decode cX4_givesTo 49 = .ok (.invokevirtual 102, 3) := by decide +kernel
theorem dX4_givesTo_52 : decode cX4_givesTo 52 = .ok (.iload 4, 2) := by decide +kernel
theorem dX4_givesTo_54 : decode cX4_givesTo 54 = .ok (.iload_n 1, 1) := by decide +kernel
theorem dX4_givesTo_55 : decode cX4_givesTo 55 = .ok (.iload_n 2, 1) := by decide +kernel
theorem dX4_givesTo_56 : decode cX4_givesTo 56 = .ok (.iload_n 3, 1) := by decide +kernel
theorem dX4_givesTo_57 : decode cX4_givesTo 57 = .ok (.invokestatic 110, 3) := by decide +kernel
theorem dX4_givesTo_60 : decode cX4_givesTo 60 = .ok (.imul, 1) := by decide +kernel
theorem dX4_givesTo_61 : decode cX4_givesTo 61 = .ok (.invokevirtual 135, 3) := by decide +kernel
theorem dX4_givesTo_64 : decode cX4_givesTo 64 = .ok (.iconst 0, 1) := by decide +kernel
theorem dX4_givesTo_65 : decode cX4_givesTo 65 = .ok (.ireturn, 1) := by decide +kernel
theorem dX4_drops_0 : decode cX4_drops 0 = .ok (.aload_n 0, 1) := by decide +kernel
theorem dX4_drops_1 : decode cX4_drops 1 = .ok (.iload_n 1, 1) := by decide +kernel
theorem dX4_drops_2 : decode cX4_drops 2 = .ok (.iload_n 2, 1) := by decide +kernel
theorem dX4_drops_3 : decode cX4_drops 3 = .ok (.iload_n 3, 1) := by decide +kernel
theorem dX4_drops_4 : decode cX4_drops 4 = .ok (.invokevirtual 126, 3) := by decide +kernel
theorem dX4_drops_7 : decode cX4_drops 7 = .ok (.ifCond .ne 5, 3) := by decide +kernel
theorem dX4_drops_10 : decode cX4_drops 10 = .ok (.iconst 1, 1) := by decide +kernel
theorem dX4_drops_11 : decode cX4_drops 11 = .ok (.ireturn, 1) := by decide +kernel
theorem dX4_drops_12 : decode cX4_drops 12 = .ok (.iload_n 1, 1) := by decide +kernel
theorem dX4_drops_13 : decode cX4_drops 13 = .ok (.iload_n 2, 1) := by decide +kernel
theorem dX4_drops_14 : decode cX4_drops 14 = .ok (.iload_n 3, 1) := by decide +kernel
theorem dX4_drops_15 : decode cX4_drops 15 = .ok (.invokestatic 99, 3) := by decide +kernel
theorem dX4_drops_18 : decode cX4_drops 18 = .ok (.ifCond .ne 5, 3) := by decide +kernel
theorem dX4_drops_21 : decode cX4_drops 21 = .ok (.iconst 2, 1) := by decide +kernel
theorem dX4_drops_22 : decode cX4_drops 22 = .ok (.ireturn, 1) := by decide +kernel
theorem dX4_drops_23 : decode cX4_drops 23 = .ok (.aload_n 0, 1) := by decide +kernel
theorem dX4_drops_24 : decode cX4_drops 24 = .ok (.iload_n 1, 1) := by decide +kernel
theorem dX4_drops_25 : decode cX4_drops 25 = .ok (.iload_n 2, 1) := by decide +kernel
theorem dX4_drops_26 : decode cX4_drops 26 = .ok (.iload_n 3, 1) := by decide +kernel
theorem dX4_drops_27 : decode cX4_drops 27 = .ok (.invokevirtual 102, 3) := by decide +kernel
theorem dX4_drops_30 : decode cX4_drops 30 = .ok (.istore 4, 2) := by decide +kernel
theorem dX4_drops_32 : decode cX4_drops 32 = .ok (.aload_n 0, 1) := by decide +kernel
theorem dX4_drops_33 : decode cX4_drops 33 = .ok (.iload 4, 2) := by decide +kernel
theorem dX4_drops_35 : decode cX4_drops 35 = .ok (.iconst 1, 1) := by decide +kernel
theorem dX4_drops_36 : decode cX4_drops 36 = .ok (.invokevirtual 106, 3) := by decide +kernel
theorem dX4_drops_39 : decode cX4_drops 39 = .ok (.iconst 1, 1) := by decide +kernel
theorem dX4_drops_40 : decode cX4_drops 40 = .ok (.if_icmp .eq 5, 3) := by decide +kernel
theorem dX4_drops_43 : decode cX4_drops 43 = .ok (.iconst 3, 1) := by decide +kernel
theorem dX4_drops_44 : decode cX4_drops 44 = .ok (.ireturn, 1) := by decide +kernel
theorem dX4_drops_45 : decode cX4_drops 45 = .ok (.aload_n 0, 1) := by decide +kernel
theorem dX4_drops_46 : decode cX4_drops 46 = .ok (.aload_n 0, 1) := by decide +kernel
theorem dX4_drops_47 : decode cX4_drops 47 = .ok (.iload_n 1, 1) := by decide +kernel
theorem dX4_drops_48 : decode cX4_drops 48 = .ok (.iload_n 2, 1) := by decide +kernel
theorem dX4_drops_49 : decode cX4_drops 49 = .ok (.iload_n 3, 1) := by decide +kernel
theorem dX4_drops_50 : decode cX4_drops 50 = .ok (.invokevirtual 129, 3) := by decide +kernel
theorem dX4_drops_53 : decode cX4_drops 53 = .ok (.iconst 0, 1) := by decide +kernel
theorem dX4_drops_54 : decode cX4_drops 54 = .ok (.aload_n 0, 1) := by decide +kernel
theorem dX4_drops_55 : decode cX4_drops 55 = .ok (.invokevirtual 122, 3) := by decide +kernel
theorem dX4_drops_58 : decode cX4_drops 58 = .ok (.imul, 1) := by decide +kernel
theorem dX4_drops_59 : decode cX4_drops 59 = .ok (.iadd, 1) := by decide +kernel
theorem dX4_drops_60 : decode cX4_drops 60 = .ok (.putfield 132, 3) := by decide +kernel
theorem dX4_drops_63 : decode cX4_drops 63 = .ok (.aload_n 0, 1) := by decide +kernel
theorem dX4_drops_64 : decode cX4_drops 64 = .ok (.iload 4, 2) := by decide +kernel
theorem dX4_drops_66 : decode cX4_drops 66 = .ok (.invokevirtual 81, 3) := by decide +kernel
theorem dX4_drops_69 : decode cX4_drops 69 = .ok (.iconst 0, 1) := by decide +kernel
theorem dX4_drops_70 : decode cX4_drops 70 = .ok (.ireturn, 1) := by decide +kernel
theorem dX4_done_0 : decode cX4_done 0 = .ok (.iload_n 1, 1) := by decide +kernel
theorem dX4_done_1 : decode cX4_done 1 = .ok (.ifCond .le 11, 3) := by decide +kernel
theorem dX4_done_4 : decode cX4_done 4 = .ok (.aload_n 0, 1) := by decide +kernel
theorem dX4_done_5 : decode cX4_done 5 = .ok (.iload_n 1, 1) := by decide +kernel
theorem dX4_done_6 : decode cX4_done 6 = .ok (.invokevirtual 113, 3) := by decide +kernel
theorem dX4_done_9 : decode cX4_done 9 = .ok (.goto 11, 3) := by decide +kernel
theorem dX4_done_12 : decode cX4_done 12 = .ok (.aload_n 0, 1) := by decide +kernel
theorem dX4_done_13 : decode cX4_done 13 = .ok (.aload_n 0, 1) := by decide +kernel
theorem dX4_done_14 : decode cX4_done 14 = .ok (.getfield 132, 3) := by decide +kernel
theorem dX4_done_17 : decode cX4_done 17 = .ok (.invokevirtual 119, 3) := by decide +kernel
theorem dX4_done_20 : decode cX4_done 20 = .ok (.ireturn, 1) := by decide +kernel
theorem dX4_give_0 : decode cX4_give 0 = .ok (.aload_n 0, 1) := by decide +kernel
theorem dX4_give_1 : decode cX4_give 1 = .ok (.invokevirtual 116, 3) := by decide +kernel
theorem dX4_give_4 : decode cX4_give 4 = .ok (.aload_n 0, 1) := by decide +kernel
theorem dX4_give_5 : decode cX4_give 5 = .ok (.aload_n 0, 1) := by decide +kernel
theorem dX4_give_6 : decode cX4_give 6 = .ok (.iload_n 1, 1) := by decide +kernel
theorem dX4_give_7 : decode cX4_give 7 = .ok (.iload_n 2, 1) := by decide +kernel
theorem dX4_give_8 : decode cX4_give 8 = .ok (.iload_n 3, 1) := by decide +kernel
theorem dX4_give_9 : decode cX4_give 9 = .ok (.iload 4, 2) := by decide +kernel
theorem dX4_give_11 : decode cX4_give 11 = .ok (.invokevirtual 138, 3) := by decide +kernel
theorem dX4_give_14 : decode cX4_give 14 = .ok (.invokevirtual 142, 3) := by decide +kernel
theorem dX4_give_17 : decode cX4_give 17 = .ok (.ireturn, 1) := by decide +kernel
theorem dX4_drop_0 : decode cX4_drop 0 = .ok (.aload_n 0, 1) := by decide +kernel
theorem dX4_drop_1 : decode cX4_drop 1 = .ok (.invokevirtual 116, 3) := by decide +kernel
theorem dX4_drop_4 : decode cX4_drop 4 = .ok (.aload_n 0, 1) := by decide +kernel
theorem dX4_drop_5 : decode cX4_drop 5 = .ok (.aload_n 0, 1) := by decide +kernel
theorem dX4_drop_6 : decode cX4_drop 6 = .ok (.iload_n 1, 1) := by decide +kernel
theorem dX4_drop_7 : decode cX4_drop 7 = .ok (.iload_n 2, 1) := by decide +kernel
theorem dX4_drop_8 : decode cX4_drop 8 = .ok (.iload_n 3, 1) := by decide +kernel
theorem dX4_drop_9 : decode cX4_drop 9 = .ok (.invokevirtual 145, 3) := by decide +kernel
theorem dX4_drop_12 : decode cX4_drop 12 = .ok (.invokevirtual 142, 3) := by decide +kernel
theorem dX4_drop_15 : decode cX4_drop 15 = .ok (.ireturn, 1) := by decide +kernel
theorem dX4_setUniform_0 : decode cX4_setUniform 0 = .ok (.aload_n 0, 1) := by decide +kernel
theorem dX4_setUniform_1 : decode cX4_setUniform 1 = .ok (.invokevirtual 116, 3) := by decide +kernel
theorem dX4_setUniform_4 : decode cX4_setUniform 4 = .ok (.aload_n 0, 1) := by decide +kernel
theorem dX4_setUniform_5 : decode cX4_setUniform 5 = .ok (.invokevirtual 122, 3) := by decide +kernel
theorem dX4_setUniform_8 : decode cX4_setUniform 8 = .ok (.istore_n 2, 1) := by decide +kernel
theorem dX4_setUniform_9 : decode cX4_setUniform 9 = .ok (.aload_n 0, 1) := by decide +kernel
theorem dX4_setUniform_10 : decode cX4_setUniform 10 = .ok (.getfield 7, 3) := by decide +kernel
theorem dX4_setUniform_13 : decode cX4_setUniform 13 = .ok (.iconst 1, 1) := by decide +kernel
theorem dX4_setUniform_14 : decode cX4_setUniform 14 = .ok (.iaload, 1) := by decide +kernel
theorem dX4_setUniform_15 : decode cX4_setUniform 15 = .ok (.iconst 1, 1) := by decide +kernel
theorem dX4_setUniform_16 : decode cX4_setUniform 16 = .ok (.if_icmp .ne 7, 3) := by decide +kernel
theorem dX4_setUniform_19 : decode cX4_setUniform 19 = .ok (.iconst 1, 1) := by decide +kernel
theorem dX4_setUniform_20 : decode cX4_setUniform 20 = .ok (.goto 4, 3) := by decide +kernel
theorem dX4_setUniform_23 : decode cX4_setUniform 23 = .ok (.iconst 0, 1) := by decide +kernel
theorem dX4_setUniform_24 : decode cX4_setUniform 24 = .ok (.istore_n 3, 1) := by decide +kernel
theorem dX4_setUniform_25 : decode cX4_setUniform 25 = .ok (.aload_n 0, 1) := by decide +kernel
theorem dX4_setUniform_26 : decode cX4_setUniform 26 = .ok (.getfield 7, 3) := by decide +kernel
theorem dX4_setUniform_29 : decode cX4_setUniform 29 = .ok (.iconst 1, 1) := by decide +kernel
theorem dX4_setUniform_30 : decode cX4_setUniform 30 = .ok (.iload_n 1, 1) := by decide +kernel
theorem dX4_setUniform_31 : decode cX4_setUniform 31 = .ok (.ifCond .eq 7, 3) := by decide +kernel
theorem dX4_setUniform_34 : decode cX4_setUniform 34 = .ok (.iconst 1, 1) := by decide +kernel
theorem dX4_setUniform_35 : decode cX4_setUniform 35 = .ok (.goto 4, 3) := by decide +kernel
theorem dX4_setUniform_38 : decode cX4_setUniform 38 = .ok (.iconst 0, 1) := by decide +kernel
theorem dX4_setUniform_39 : decode cX4_setUniform 39 = .ok (.iastore, 1) := by decide +kernel
theorem dX4_setUniform_40 : decode cX4_setUniform 40 = .ok (.aload_n 0, 1) := by decide +kernel
theorem dX4_setUniform_41 : decode cX4_setUniform 41 = .ok (.iload_n 3, 1) := by decide +kernel
theorem dX4_setUniform_42 : decode cX4_setUniform 42 = .ok (.ifCond .eq 11, 3) := by decide +kernel
theorem dX4_setUniform_45 : decode cX4_setUniform 45 = .ok (.iload_n 2, 1) := by decide +kernel
theorem dX4_setUniform_46 : decode cX4_setUniform 46 = .ok (.ifCond .lt 7, 3) := by decide +kernel
theorem dX4_setUniform_49 : decode cX4_setUniform 49 = .ok (.iconst 1, 1) := by decide +kernel
theorem dX4_setUniform_50 : decode cX4_setUniform 50 = .ok (.goto 4, 3) := by decide +kernel
theorem dX4_setUniform_53 : decode cX4_setUniform 53 = .ok (.iconst 0, 1) := by decide +kernel
theorem dX4_setUniform_54 : decode cX4_setUniform 54 = .ok (.invokevirtual 119, 3) := by decide +kernel
theorem dX4_setUniform_57 : decode cX4_setUniform 57 = .ok (.iconst 1, 1) := by decide +kernel
theorem dX4_setUniform_58 : decode cX4_setUniform 58 = .ok (.if_icmp .ne 7, 3) := by decide +kernel
theorem dX4_setUniform_61 : decode cX4_setUniform 61 = .ok (.iconst 1, 1) := by decide +kernel
theorem dX4_setUniform_62 : decode cX4_setUniform 62 = .ok (.goto 4, 3) := by decide +kernel
theorem dX4_setUniform_65 : decode cX4_setUniform 65 = .ok (.iconst 0, 1) := by decide +kernel
theorem dX4_setUniform_66 : decode cX4_setUniform 66 = .ok (.ireturn, 1) := by decide +kernel
theorem dX4_looks_0 : decode cX4_looks 0 = .ok (.aload_n 0, 1) := by decide +kernel
theorem dX4_looks_1 : decode cX4_looks 1 = .ok (.getfield 28, 3) := by decide +kernel
theorem dX4_looks_4 : decode cX4_looks 4 = .ok (.iconst 5, 1) := by decide +kernel
theorem dX4_looks_5 : decode cX4_looks 5 = .ok (.iload_n 1, 1) := by decide +kernel
theorem dX4_looks_6 : decode cX4_looks 6 = .ok (.imul, 1) := by decide +kernel
theorem dX4_looks_7 : decode cX4_looks 7 = .ok (.iaload, 1) := by decide +kernel
theorem dX4_looks_8 : decode cX4_looks 8 = .ok (.istore 5, 2) := by decide +kernel
theorem dX4_looks_10 : decode cX4_looks 10 = .ok (.aload_n 0, 1) := by decide +kernel
theorem dX4_looks_11 : decode cX4_looks 11 = .ok (.getfield 28, 3) := by decide +kernel
theorem dX4_looks_14 : decode cX4_looks 14 = .ok (.iconst 5, 1) := by decide +kernel
theorem dX4_looks_15 : decode cX4_looks 15 = .ok (.iload_n 1, 1) := by decide +kernel
theorem dX4_looks_16 : decode cX4_looks 16 = .ok (.imul, 1) := by decide +kernel
theorem dX4_looks_17 : decode cX4_looks 17 = .ok (.iload_n 3, 1) := by decide +kernel
theorem dX4_looks_18 : decode cX4_looks 18 = .ok (.iadd, 1) := by decide +kernel
theorem dX4_looks_19 : decode cX4_looks 19 = .ok (.iaload, 1) := by decide +kernel
theorem dX4_looks_20 : decode cX4_looks 20 = .ok (.istore 6, 2) := by decide +kernel
theorem dX4_looks_22 : decode cX4_looks 22 = .ok (.aload_n 0, 1) := by decide +kernel
theorem dX4_looks_23 : decode cX4_looks 23 = .ok (.getfield 28, 3) := by decide +kernel
theorem dX4_looks_26 : decode cX4_looks 26 = .ok (.iconst 5, 1) := by decide +kernel
theorem dX4_looks_27 : decode cX4_looks 27 = .ok (.iload_n 1, 1) := by decide +kernel
theorem dX4_looks_28 : decode cX4_looks 28 = .ok (.imul, 1) := by decide +kernel
theorem dX4_looks_29 : decode cX4_looks 29 = .ok (.iload 4, 2) := by decide +kernel
theorem dX4_looks_31 : decode cX4_looks 31 = .ok (.iadd, 1) := by decide +kernel
theorem dX4_looks_32 : decode cX4_looks 32 = .ok (.iaload, 1) := by decide +kernel
theorem dX4_looks_33 : decode cX4_looks 33 = .ok (.istore 7, 2) := by decide +kernel
theorem dX4_looks_35 : decode cX4_looks 35 = .ok (.aload_n 0, 1) := by decide +kernel
theorem dX4_looks_36 : decode cX4_looks 36 = .ok (.getfield 31, 3) := by decide +kernel
theorem dX4_looks_39 : decode cX4_looks 39 = .ok (.iload_n 2, 1) := by decide +kernel
theorem dX4_looks_40 : decode cX4_looks 40 = .ok (.aload_n 0, 1) := by decide +kernel
theorem dX4_looks_41 : decode cX4_looks 41 = .ok (.iload 5, 2) := by decide +kernel
theorem dX4_looks_43 : decode cX4_looks 43 = .ok (.iload 6, 2) := by decide +kernel
theorem dX4_looks_45 : decode cX4_looks 45 = .ok (.iload 7, 2) := by decide +kernel
theorem dX4_looks_47 : decode cX4_looks 47 = .ok (.invokevirtual 102, 3) := by decide +kernel
theorem dX4_looks_50 : decode cX4_looks 50 = .ok (.iastore, 1) := by decide +kernel
theorem dX4_looks_51 : decode cX4_looks 51 = .ok (.aload_n 0, 1) := by decide +kernel
theorem dX4_looks_52 : decode cX4_looks 52 = .ok (.getfield 34, 3) := by decide +kernel
theorem dX4_looks_55 : decode cX4_looks 55 = .ok (.iload_n 2, 1) := by decide +kernel
theorem dX4_looks_56 : decode cX4_looks 56 = .ok (.iload 5, 2) := by decide +kernel
theorem dX4_looks_58 : decode cX4_looks 58 = .ok (.iload 6, 2) := by decide +kernel
theorem dX4_looks_60 : decode cX4_looks 60 = .ok (.iload 7, 2) := by decide +kernel
theorem dX4_looks_62 : decode cX4_looks 62 = .ok (.invokestatic 110, 3) := by decide +kernel
theorem dX4_looks_65 : decode cX4_looks 65 = .ok (.iastore, 1) := by decide +kernel
theorem dX4_looks_66 : decode cX4_looks 66 = .ok (.return_, 1) := by decide +kernel
theorem dX4_looksAt_0 : decode cX4_looksAt 0 = .ok (.aload_n 0, 1) := by decide +kernel
theorem dX4_looksAt_1 : decode cX4_looksAt 1 = .ok (.iload_n 1, 1) := by decide +kernel
theorem dX4_looksAt_2 : decode cX4_looksAt 2 = .ok (.iconst 0, 1) := by decide +kernel
theorem dX4_looksAt_3 : decode cX4_looksAt 3 = .ok (.iconst 1, 1) := by decide +kernel
theorem dX4_looksAt_4 : decode cX4_looksAt 4 = .ok (.iconst 2, 1) := by decide +kernel
theorem dX4_looksAt_5 : decode cX4_looksAt 5 = .ok (.invokevirtual 148, 3) := by decide +kernel
theorem dX4_looksAt_8 : decode cX4_looksAt 8 = .ok (.aload_n 0, 1) := by decide +kernel
theorem dX4_looksAt_9 : decode cX4_looksAt 9 = .ok (.iload_n 1, 1) := by decide +kernel
theorem dX4_looksAt_10 : decode cX4_looksAt 10 = .ok (.iconst 1, 1) := by decide +kernel
theorem dX4_looksAt_11 : decode cX4_looksAt 11 = .ok (.iconst 3, 1) := by decide +kernel
theorem dX4_looksAt_12 : decode cX4_looksAt 12 = .ok (.iconst 4, 1) := by decide +kernel
theorem dX4_looksAt_13 : decode cX4_looksAt 13 = .ok (.invokevirtual 148, 3) := by decide +kernel
theorem dX4_looksAt_16 : decode cX4_looksAt 16 = .ok (.aload_n 0, 1) := by decide +kernel
theorem dX4_looksAt_17 : decode cX4_looksAt 17 = .ok (.iload_n 1, 1) := by decide +kernel
theorem dX4_looksAt_18 : decode cX4_looksAt 18 = .ok (.iconst 2, 1) := by decide +kernel
theorem dX4_looksAt_19 : decode cX4_looksAt 19 = .ok (.iconst 1, 1) := by decide +kernel
theorem dX4_looksAt_20 : decode cX4_looksAt 20 = .ok (.iconst 3, 1) := by decide +kernel
theorem dX4_looksAt_21 : decode cX4_looksAt 21 = .ok (.invokevirtual 148, 3) := by decide +kernel
theorem dX4_looksAt_24 : decode cX4_looksAt 24 = .ok (.aload_n 0, 1) := by decide +kernel
theorem dX4_looksAt_25 : decode cX4_looksAt 25 = .ok (.iload_n 1, 1) := by decide +kernel
theorem dX4_looksAt_26 : decode cX4_looksAt 26 = .ok (.iconst 3, 1) := by decide +kernel
theorem dX4_looksAt_27 : decode cX4_looksAt 27 = .ok (.iconst 2, 1) := by decide +kernel
theorem dX4_looksAt_28 : decode cX4_looksAt 28 = .ok (.iconst 4, 1) := by decide +kernel
theorem dX4_looksAt_29 : decode cX4_looksAt 29 = .ok (.invokevirtual 148, 3) := by decide +kernel
theorem dX4_looksAt_32 : decode cX4_looksAt 32 = .ok (.aload_n 0, 1) := by decide +kernel
theorem dX4_looksAt_33 : decode cX4_looksAt 33 = .ok (.iload_n 1, 1) := by decide +kernel
theorem dX4_looksAt_34 : decode cX4_looksAt 34 = .ok (.iconst 4, 1) := by decide +kernel
theorem dX4_looksAt_35 : decode cX4_looksAt 35 = .ok (.iconst 1, 1) := by decide +kernel
theorem dX4_looksAt_36 : decode cX4_looksAt 36 = .ok (.iconst 4, 1) := by decide +kernel
theorem dX4_looksAt_37 : decode cX4_looksAt 37 = .ok (.invokevirtual 148, 3) := by decide +kernel
theorem dX4_looksAt_40 : decode cX4_looksAt 40 = .ok (.aload_n 0, 1) := by decide +kernel
theorem dX4_looksAt_41 : decode cX4_looksAt 41 = .ok (.iload_n 1, 1) := by decide +kernel
theorem dX4_looksAt_42 : decode cX4_looksAt 42 = .ok (.iconst 5, 1) := by decide +kernel
theorem dX4_looksAt_43 : decode cX4_looksAt 43 = .ok (.iconst 2, 1) := by decide +kernel
theorem dX4_looksAt_44 : decode cX4_looksAt 44 = .ok (.iconst 3, 1) := by decide +kernel
theorem dX4_looksAt_45 : decode cX4_looksAt 45 = .ok (.invokevirtual 148, 3) := by decide +kernel
theorem dX4_looksAt_48 : decode cX4_looksAt 48 = .ok (.return_, 1) := by decide +kernel
theorem dX4_unknowns_0 : decode cX4_unknowns 0 = .ok (.iconst 0, 1) := by decide +kernel
theorem dX4_unknowns_1 : decode cX4_unknowns 1 = .ok (.istore_n 1, 1) := by decide +kernel
theorem dX4_unknowns_2 : decode cX4_unknowns 2 = .ok (.iconst 0, 1) := by decide +kernel
theorem dX4_unknowns_3 : decode cX4_unknowns 3 = .ok (.istore_n 2, 1) := by decide +kernel
theorem dX4_unknowns_4 : decode cX4_unknowns 4 = .ok (.iload_n 2, 1) := by decide +kernel
theorem dX4_unknowns_5 : decode cX4_unknowns 5 = .ok (.bipush 6, 2) := by decide +kernel
theorem dX4_unknowns_7 : decode cX4_unknowns 7 = .ok (.if_icmp .ge 33, 3) := by decide +kernel
theorem dX4_unknowns_10 : decode cX4_unknowns 10 = .ok (.iload_n 1, 1) := by decide +kernel
theorem dX4_unknowns_11 : decode cX4_unknowns 11 = .ok (.aload_n 0, 1) := by decide +kernel
theorem dX4_unknowns_12 : decode cX4_unknowns 12 = .ok (.aload_n 0, 1) := by decide +kernel
theorem dX4_unknowns_13 : decode cX4_unknowns 13 = .ok (.getfield 31, 3) := by decide +kernel
theorem dX4_unknowns_16 : decode cX4_unknowns 16 = .ok (.iload_n 2, 1) := by decide +kernel
theorem dX4_unknowns_17 : decode cX4_unknowns 17 = .ok (.iaload, 1) := by decide +kernel
theorem dX4_unknowns_18 : decode cX4_unknowns 18 = .ok (.iconst 0, 1) := by decide +kernel
theorem dX4_unknowns_19 : decode cX4_unknowns 19 = .ok (.invokevirtual 106, 3) := by decide +kernel
theorem dX4_unknowns_22 : decode cX4_unknowns 22 = .ok (.bipush (-100), 2) := by decide +kernel
theorem dX4_unknowns_24 : decode cX4_unknowns 24 = .ok (.if_icmp .ne 7, 3) := by decide +kernel
theorem dX4_unknowns_27 : decode cX4_unknowns 27 = .ok (.iconst 1, 1) := by decide +kernel
theorem dX4_unknowns_28 : decode cX4_unknowns 28 = .ok (.goto 4, 3) := by decide +kernel
theorem dX4_unknowns_31 : decode cX4_unknowns 31 = .ok (.iconst 0, 1) := by decide +kernel
theorem dX4_unknowns_32 : decode cX4_unknowns 32 = .ok (.iadd, 1) := by decide +kernel
theorem dX4_unknowns_33 : decode cX4_unknowns 33 = .ok (.istore_n 1, 1) := by decide +kernel
theorem dX4_unknowns_34 : decode cX4_unknowns 34 = .ok (.iinc 2 1, 3) := by decide +kernel
theorem dX4_unknowns_37 : decode cX4_unknowns 37 = .ok (.goto (-33), 3) := by decide +kernel
theorem dX4_unknowns_40 : decode cX4_unknowns 40 = .ok (.iload_n 1, 1) := by decide +kernel
theorem dX4_unknowns_41 : decode cX4_unknowns 41 = .ok (.ireturn, 1) := by decide +kernel
theorem dX4_isFulfilled_0 : decode cX4_isFulfilled 0 = .ok (.iconst 0, 1) := by decide +kernel
theorem dX4_isFulfilled_1 : decode cX4_isFulfilled 1 = .ok (.istore_n 2, 1) := by decide +kernel
theorem dX4_isFulfilled_2 : decode cX4_isFulfilled 2 = .ok (.iconst 0, 1) := by decide +kernel
theorem dX4_isFulfilled_3 : decode cX4_isFulfilled 3 = .ok (.istore_n 3, 1) := by decide +kernel
theorem dX4_isFulfilled_4 : decode cX4_isFulfilled 4 = .ok (.iconst 0, 1) := by decide +kernel
theorem dX4_isFulfilled_5 : decode cX4_isFulfilled 5 = .ok (.istore 4, 2) := by decide +kernel
theorem dX4_isFulfilled_7 : decode cX4_isFulfilled 7 = .ok (.iload 4, 2) := by decide +kernel
theorem dX4_isFulfilled_9 : decode cX4_isFulfilled 9 = .ok (.iconst 3, 1) := by decide +kernel
theorem dX4_isFulfilled_10 : decode cX4_isFulfilled 10 = .ok (.if_icmp .ge 115, 3) := by decide +kernel
theorem dX4_isFulfilled_13 : decode cX4_isFulfilled 13 = .ok (.iload 4, 2) := by decide +kernel
theorem dX4_isFulfilled_15 : decode cX4_isFulfilled 15 = .ok (.iconst 1, 1) := by decide +kernel
theorem dX4_isFulfilled_16 : decode cX4_isFulfilled 16 = .ok (.if_icmp .ne 7, 3) := by decide +kernel
theorem dX4_isFulfilled_19 : decode cX4_isFulfilled 19 = .ok (.iconst (-1), 1) := by decide +kernel
theorem dX4_isFulfilled_20 : decode cX4_isFulfilled 20 = .ok (.goto 4, 3) := by decide +kernel
theorem dX4_isFulfilled_23 : decode cX4_isFulfilled 23 = .ok (.iconst 1, 1) := by decide +kernel
theorem dX4_isFulfilled_24 : decode cX4_isFulfilled 24 = .ok (.istore 5, 2) := by decide +kernel
theorem dX4_isFulfilled_26 : decode cX4_isFulfilled 26 = .ok (.iconst 2, 1) := by decide +kernel
theorem dX4_isFulfilled_27 : decode cX4_isFulfilled 27 = .ok (.iload 4, 2) := by decide +kernel
theorem dX4_isFulfilled_29 : decode cX4_isFulfilled 29 = .ok (.imul, 1) := by decide +kernel
theorem dX4_isFulfilled_30 : decode cX4_isFulfilled 30 = .ok (.istore 6, 2) := by decide +kernel
theorem dX4_isFulfilled_32 : decode cX4_isFulfilled 32 = .ok (.iload 6, 2) := by decide +kernel
theorem dX4_isFulfilled_34 : decode cX4_isFulfilled 34 = .ok (.iconst 2, 1) := by decide +kernel
theorem dX4_isFulfilled_35 : decode cX4_isFulfilled 35 = .ok (.iload 4, 2) := by decide +kernel
theorem dX4_isFulfilled_37 : decode cX4_isFulfilled 37 = .ok (.imul, 1) := by decide +kernel
theorem dX4_isFulfilled_38 : decode cX4_isFulfilled 38 = .ok (.iconst 2, 1) := by decide +kernel
theorem dX4_isFulfilled_39 : decode cX4_isFulfilled 39 = .ok (.iadd, 1) := by decide +kernel
theorem dX4_isFulfilled_40 : decode cX4_isFulfilled 40 = .ok (.if_icmp .ge 49, 3) := by decide +kernel
theorem dX4_isFulfilled_43 : decode cX4_isFulfilled 43 = .ok (.aload_n 0, 1) := by decide +kernel
theorem dX4_isFulfilled_44 : decode cX4_isFulfilled 44 = .ok (.aload_n 0, 1) := by decide +kernel
theorem dX4_isFulfilled_45 : decode cX4_isFulfilled 45 = .ok (.getfield 31, 3) := by decide +kernel
theorem dX4_isFulfilled_48 : decode cX4_isFulfilled 48 = .ok (.iload 6, 2) := by decide +kernel
theorem dX4_isFulfilled_50 : decode cX4_isFulfilled 50 = .ok (.iaload, 1) := by decide +kernel
theorem dX4_isFulfilled_51 : decode cX4_isFulfilled 51 = .ok (.iconst 0, 1) := by decide +kernel
theorem dX4_isFulfilled_52 : decode cX4_isFulfilled 52 = .ok (.invokevirtual 106, 3) := by decide +kernel
theorem dX4_isFulfilled_55 : decode cX4_isFulfilled 55 = .ok (.istore 7, 2) := by decide +kernel
theorem dX4_isFulfilled_57 : decode cX4_isFulfilled 57 = .ok (.iload 5, 2) := by decide +kernel
theorem dX4_isFulfilled_59 : decode cX4_isFulfilled 59 = .ok (.aload_n 0, 1) := by decide +kernel
theorem dX4_isFulfilled_60 : decode cX4_isFulfilled 60 = .ok (.getfield 34, 3) := by decide +kernel
theorem dX4_isFulfilled_63 : decode cX4_isFulfilled 63 = .ok (.iload 6, 2) := by decide +kernel
theorem dX4_isFulfilled_65 : decode cX4_isFulfilled 65 = .ok (.iaload, 1) := by decide +kernel
theorem dX4_isFulfilled_66 : decode cX4_isFulfilled 66 = .ok (.iload 7, 2) := by decide +kernel
theorem dX4_isFulfilled_68 : decode cX4_isFulfilled 68 = .ok (.bipush (-100), 2) := by decide +kernel
theorem dX4_isFulfilled_70 : decode cX4_isFulfilled 70 = .ok (.if_icmp .ne 7, 3) := by decide +kernel
theorem dX4_isFulfilled_73 : decode cX4_isFulfilled 73 = .ok (.iload_n 1, 1) := by decide +kernel
theorem dX4_isFulfilled_74 : decode cX4_isFulfilled 74 = .ok (.goto 5, 3) := by decide +kernel
theorem dX4_isFulfilled_77 : decode cX4_isFulfilled 77 = .ok (.iload 7, 2) := by decide +kernel
theorem dX4_isFulfilled_79 : decode cX4_isFulfilled 79 = .ok (.imul, 1) := by decide +kernel
theorem dX4_isFulfilled_80 : decode cX4_isFulfilled 80 = .ok (.imul, 1) := by decide +kernel
theorem dX4_isFulfilled_81 : decode cX4_isFulfilled 81 = .ok (.istore 5, 2) := by decide +kernel
theorem dX4_isFulfilled_83 : decode cX4_isFulfilled 83 = .ok (.iinc 6 1, 3) := by decide +kernel
theorem dX4_isFulfilled_86 : decode cX4_isFulfilled 86 = .ok (.goto (-54), 3) := by decide +kernel
theorem dX4_isFulfilled_89 : decode cX4_isFulfilled 89 = .ok (.iload_n 2, 1) := by decide +kernel
theorem dX4_isFulfilled_90 : decode cX4_isFulfilled 90 = .ok (.ifCond .ne 8, 3) := by decide +kernel
theorem dX4_isFulfilled_93 : decode cX4_isFulfilled 93 = .ok (.iload 5, 2) := by decide +kernel
theorem dX4_isFulfilled_95 : decode cX4_isFulfilled 95 = .ok (.ifCond .le 7, 3) := by decide +kernel
theorem dX4_isFulfilled_98 : decode cX4_isFulfilled 98 = .ok (.iconst 1, 1) := by decide +kernel
theorem dX4_isFulfilled_99 : decode cX4_isFulfilled 99 = .ok (.goto 4, 3) := by decide +kernel
theorem dX4_isFulfilled_102 : decode cX4_isFulfilled 102 = .ok (.iconst 0, 1) := by decide +kernel
theorem dX4_isFulfilled_103 : decode cX4_isFulfilled 103 = .ok (.istore_n 2, 1) := by decide +kernel
theorem dX4_isFulfilled_104 : decode cX4_isFulfilled 104 = .ok (.iload_n 3, 1) := by decide +kernel
theorem dX4_isFulfilled_105 : decode cX4_isFulfilled 105 = .ok (.ifCond .ne 8, 3) := by decide +kernel
theorem dX4_isFulfilled_108 : decode cX4_isFulfilled 108 = .ok (.iload 5, 2) := by decide +kernel
theorem dX4_isFulfilled_110 : decode cX4_isFulfilled 110 = .ok (.ifCond .ge 7, 3) := by decide +kernel
theorem dX4_isFulfilled_113 : decode cX4_isFulfilled 113 = .ok (.iconst 1, 1) := by decide +kernel
theorem dX4_isFulfilled_114 : decode cX4_isFulfilled 114 = .ok (.goto 4, 3) := by decide +kernel
theorem dX4_isFulfilled_117 : decode cX4_isFulfilled 117 = .ok (.iconst 0, 1) := by decide +kernel
theorem dX4_isFulfilled_118 : decode cX4_isFulfilled 118 = .ok (.istore_n 3, 1) := by decide +kernel
theorem dX4_isFulfilled_119 : decode cX4_isFulfilled 119 = .ok (.iinc 4 1, 3) := by decide +kernel
theorem dX4_isFulfilled_122 : decode cX4_isFulfilled 122 = .ok (.goto (-115), 3) := by decide +kernel
theorem dX4_isFulfilled_125 : decode cX4_isFulfilled 125 = .ok (.iload_n 2, 1) := by decide +kernel
theorem dX4_isFulfilled_126 : decode cX4_isFulfilled 126 = .ok (.iload_n 3, 1) := by decide +kernel
theorem dX4_isFulfilled_127 : decode cX4_isFulfilled 127 = .ok (.if_icmp .ne 7, 3) := by decide +kernel
theorem dX4_isFulfilled_130 : decode cX4_isFulfilled 130 = .ok (.iconst 1, 1) := by decide +kernel
theorem dX4_isFulfilled_131 : decode cX4_isFulfilled 131 = .ok (.goto 4, 3) := by decide +kernel
theorem dX4_isFulfilled_134 : decode cX4_isFulfilled 134 = .ok (.iconst 0, 1) := by decide +kernel
theorem dX4_isFulfilled_135 : decode cX4_isFulfilled 135 = .ok (.ireturn, 1) := by decide +kernel
theorem dX4_tries_0 : decode cX4_tries 0 = .ok (.aload_n 0, 1) := by decide +kernel
theorem dX4_tries_1 : decode cX4_tries 1 = .ok (.iload_n 1, 1) := by decide +kernel
theorem dX4_tries_2 : decode cX4_tries 2 = .ok (.invokevirtual 152, 3) := by decide +kernel
theorem dX4_tries_5 : decode cX4_tries 5 = .ok (.aload_n 0, 1) := by decide +kernel
theorem dX4_tries_6 : decode cX4_tries 6 = .ok (.invokevirtual 155, 3) := by decide +kernel
theorem dX4_tries_9 : decode cX4_tries 9 = .ok (.istore_n 2, 1) := by decide +kernel
theorem dX4_tries_10 : decode cX4_tries 10 = .ok (.iload_n 2, 1) := by decide +kernel
theorem dX4_tries_11 : decode cX4_tries 11 = .ok (.ifCond .ne 17, 3) := by decide +kernel
theorem dX4_tries_14 : decode cX4_tries 14 = .ok (.aload_n 0, 1) := by decide +kernel
theorem dX4_tries_15 : decode cX4_tries 15 = .ok (.iconst 0, 1) := by decide +kernel
theorem dX4_tries_16 : decode cX4_tries 16 = .ok (.invokevirtual 158, 3) := by decide +kernel
theorem dX4_tries_19 : decode cX4_tries 19 = .ok (.ifCond .eq 7, 3) := by decide +kernel
theorem dX4_tries_22 : decode cX4_tries 22 = .ok (.iconst 0, 1) := by decide +kernel
theorem dX4_tries_23 : decode cX4_tries 23 = .ok (.goto 4, 3) := by decide +kernel
theorem dX4_tries_26 : decode cX4_tries 26 = .ok (.iconst (-1), 1) := by decide +kernel
theorem dX4_tries_27 : decode cX4_tries 27 = .ok (.ireturn, 1) := by decide +kernel
theorem dX4_tries_28 : decode cX4_tries 28 = .ok (.iload_n 2, 1) := by decide +kernel
theorem dX4_tries_29 : decode cX4_tries 29 = .ok (.iconst 1, 1) := by decide +kernel
theorem dX4_tries_30 : decode cX4_tries 30 = .ok (.if_icmp .le 5, 3) := by decide +kernel
theorem dX4_tries_33 : decode cX4_tries 33 = .ok (.iconst 0, 1) := by decide +kernel
theorem dX4_tries_34 : decode cX4_tries 34 = .ok (.ireturn, 1) := by decide +kernel
theorem dX4_tries_35 : decode cX4_tries 35 = .ok (.iconst 0, 1) := by decide +kernel
theorem dX4_tries_36 : decode cX4_tries 36 = .ok (.istore_n 3, 1) := by decide +kernel
theorem dX4_tries_37 : decode cX4_tries 37 = .ok (.iconst 0, 1) := by decide +kernel
theorem dX4_tries_38 : decode cX4_tries 38 = .ok (.istore 4, 2) := by decide +kernel
theorem dX4_tries_40 : decode cX4_tries 40 = .ok (.iconst (-1), 1) := by decide +kernel
theorem dX4_tries_41 : decode cX4_tries 41 = .ok (.istore 5, 2) := by decide +kernel
theorem dX4_tries_43 : decode cX4_tries 43 = .ok (.iload 5, 2) := by decide +kernel
theorem dX4_tries_45 : decode cX4_tries 45 = .ok (.iconst 2, 1) := by decide +kernel
theorem dX4_tries_46 : decode cX4_tries 46 = .ok (.if_icmp .ge 39, 3) := by decide +kernel
theorem dX4_tries_49 : decode cX4_tries 49 = .ok (.iload 5, 2) := by decide +kernel
theorem dX4_tries_51 : decode cX4_tries 51 = .ok (.ifCond .ne 12, 3) := by decide +kernel
theorem dX4_tries_54 : decode cX4_tries 54 = .ok (.aload_n 0, 1) := by decide +kernel
theorem dX4_tries_55 : decode cX4_tries 55 = .ok (.getfield 7, 3) := by decide +kernel
theorem dX4_tries_58 : decode cX4_tries 58 = .ok (.iconst 1, 1) := by decide +kernel
theorem dX4_tries_59 : decode cX4_tries 59 = .ok (.iaload, 1) := by decide +kernel
theorem dX4_tries_60 : decode cX4_tries 60 = .ok (.ifCond .ne 19, 3) := by decide +kernel
theorem dX4_tries_63 : decode cX4_tries 63 = .ok (.aload_n 0, 1) := by decide +kernel
theorem dX4_tries_64 : decode cX4_tries 64 = .ok (.iload 5, 2) := by decide +kernel
theorem dX4_tries_66 : decode cX4_tries 66 = .ok (.invokevirtual 158, 3) := by decide +kernel
theorem dX4_tries_69 : decode cX4_tries 69 = .ok (.ifCond .eq 10, 3) := by decide +kernel
theorem dX4_tries_72 : decode cX4_tries 72 = .ok (.iinc 3 1, 3) := by decide +kernel
theorem dX4_tries_75 : decode cX4_tries 75 = .ok (.iload 5, 2) := by decide +kernel
theorem dX4_tries_77 : decode cX4_tries 77 = .ok (.istore 4, 2) := by decide +kernel
theorem dX4_tries_79 : decode cX4_tries 79 = .ok (.iinc 5 1, 3) := by decide +kernel
theorem dX4_tries_82 : decode cX4_tries 82 = .ok (.goto (-39), 3) := by decide +kernel
theorem dX4_tries_85 : decode cX4_tries 85 = .ok (.iload_n 3, 1) := by decide +kernel
theorem dX4_tries_86 : decode cX4_tries 86 = .ok (.iconst 1, 1) := by decide +kernel
theorem dX4_tries_87 : decode cX4_tries 87 = .ok (.if_icmp .eq 13, 3) := by decide +kernel
theorem dX4_tries_90 : decode cX4_tries 90 = .ok (.iload_n 3, 1) := by decide +kernel
theorem dX4_tries_91 : decode cX4_tries 91 = .ok (.ifCond .ne 7, 3) := by decide +kernel
theorem dX4_tries_94 : decode cX4_tries 94 = .ok (.iconst (-1), 1) := by decide +kernel
theorem dX4_tries_95 : decode cX4_tries 95 = .ok (.goto 4, 3) := by decide +kernel
theorem dX4_tries_98 : decode cX4_tries 98 = .ok (.iconst 0, 1) := by decide +kernel
theorem dX4_tries_99 : decode cX4_tries 99 = .ok (.ireturn, 1) := by decide +kernel
theorem dX4_tries_100 : decode cX4_tries 100 = .ok (.iconst 0, 1) := by decide +kernel
theorem dX4_tries_101 : decode cX4_tries 101 = .ok (.istore 5, 2) := by decide +kernel
theorem dX4_tries_103 : decode cX4_tries 103 = .ok (.iload 5, 2) := by decide +kernel
theorem dX4_tries_105 : decode cX4_tries 105 = .ok (.bipush 6, 2) := by decide +kernel
theorem dX4_tries_107 : decode cX4_tries 107 = .ok (.if_icmp .ge 67, 3) := by decide +kernel
theorem dX4_tries_110 : decode cX4_tries 110 = .ok (.aload_n 0, 1) := by decide +kernel
theorem dX4_tries_111 : decode cX4_tries 111 = .ok (.getfield 31, 3) := by decide +kernel
theorem dX4_tries_114 : decode cX4_tries 114 = .ok (.iload 5, 2) := by decide +kernel
theorem dX4_tries_116 : decode cX4_tries 116 = .ok (.iaload, 1) := by decide +kernel
theorem dX4_tries_117 : decode cX4_tries 117 = .ok (.istore 6, 2) := by decide +kernel
theorem dX4_tries_119 : decode cX4_tries 119 = .ok (.aload_n 0, 1) := by decide +kernel
theorem dX4_tries_120 : decode cX4_tries 120 = .ok (.iload 6, 2) := by decide +kernel
theorem dX4_tries_122 : decode cX4_tries 122 = .ok (.iconst 0, 1) := by decide +kernel
theorem dX4_tries_123 : decode cX4_tries 123 = .ok (.invokevirtual 106, 3) := by decide +kernel
theorem dX4_tries_126 : decode cX4_tries 126 = .ok (.bipush (-100), 2) := by decide +kernel
theorem dX4_tries_128 : decode cX4_tries 128 = .ok (.if_icmp .ne 40, 3) := by decide +kernel
theorem dX4_tries_131 : decode cX4_tries 131 = .ok (.aload_n 0, 1) := by decide +kernel
theorem dX4_tries_132 : decode cX4_tries 132 = .ok (.iload 6, 2) := by decide +kernel
theorem dX4_tries_134 : decode cX4_tries 134 = .ok (.iconst 0, 1) := by decide +kernel
theorem dX4_tries_135 : decode cX4_tries 135 = .ok (.iload 4, 2) := by decide +kernel
theorem dX4_tries_137 : decode cX4_tries 137 = .ok (.invokevirtual 87, 3) := by decide +kernel
theorem dX4_tries_140 : decode cX4_tries 140 = .ok (.aload_n 0, 1) := by decide +kernel
theorem dX4_tries_141 : decode cX4_tries 141 = .ok (.iload 6, 2) := by decide +kernel
theorem dX4_tries_143 : decode cX4_tries 143 = .ok (.iconst 1, 1) := by decide +kernel
theorem dX4_tries_144 : decode cX4_tries 144 = .ok (.iconst 2, 1) := by decide +kernel
theorem dX4_tries_145 : decode cX4_tries 145 = .ok (.invokevirtual 87, 3) := by decide +kernel
theorem dX4_tries_148 : decode cX4_tries 148 = .ok (.aload_n 0, 1) := by decide +kernel
theorem dX4_tries_149 : decode cX4_tries 149 = .ok (.iload 6, 2) := by decide +kernel
theorem dX4_tries_151 : decode cX4_tries 151 = .ok (.iconst 2, 1) := by decide +kernel
theorem dX4_tries_152 : decode cX4_tries 152 = .ok (.iload_n 1, 1) := by decide +kernel
theorem dX4_tries_153 : decode cX4_tries 153 = .ok (.invokevirtual 87, 3) := by decide +kernel
theorem dX4_tries_156 : decode cX4_tries 156 = .ok (.aload_n 0, 1) := by decide +kernel
theorem dX4_tries_157 : decode cX4_tries 157 = .ok (.iload 6, 2) := by decide +kernel
theorem dX4_tries_159 : decode cX4_tries 159 = .ok (.iconst 3, 1) := by decide +kernel
theorem dX4_tries_160 : decode cX4_tries 160 = .ok (.aload_n 0, 1) := by decide +kernel
theorem dX4_tries_161 : decode cX4_tries 161 = .ok (.iconst 2, 1) := by decide +kernel
theorem dX4_tries_162 : decode cX4_tries 162 = .ok (.invokevirtual 161, 3) := by decide +kernel
theorem dX4_tries_165 : decode cX4_tries 165 = .ok (.invokevirtual 87, 3) := by decide +kernel
theorem dX4_tries_168 : decode cX4_tries 168 = .ok (.iinc 5 1, 3) := by decide +kernel
theorem dX4_tries_171 : decode cX4_tries 171 = .ok (.goto (-68), 3) := by decide +kernel
theorem dX4_tries_174 : decode cX4_tries 174 = .ok (.iconst 1, 1) := by decide +kernel
theorem dX4_tries_175 : decode cX4_tries 175 = .ok (.ireturn, 1) := by decide +kernel
theorem dX4_derives_0 : decode cX4_derives 0 = .ok (.aload_n 0, 1) := by decide +kernel
theorem dX4_derives_1 : decode cX4_derives 1 = .ok (.getfield 7, 3) := by decide +kernel
theorem dX4_derives_4 : decode cX4_derives 4 = .ok (.iconst 2, 1) := by decide +kernel
theorem dX4_derives_5 : decode cX4_derives 5 = .ok (.bipush (-100), 2) := by decide +kernel
theorem dX4_derives_7 : decode cX4_derives 7 = .ok (.iastore, 1) := by decide +kernel
theorem dX4_derives_8 : decode cX4_derives 8 = .ok (.aload_n 0, 1) := by decide +kernel
theorem dX4_derives_9 : decode cX4_derives 9 = .ok (.iconst 2, 1) := by decide +kernel
theorem dX4_derives_10 : decode cX4_derives 10 = .ok (.invokevirtual 161, 3) := by decide +kernel
theorem dX4_derives_13 : decode cX4_derives 13 = .ok (.istore_n 1, 1) := by decide +kernel
theorem dX4_derives_14 : decode cX4_derives 14 = .ok (.iconst 1, 1) := by decide +kernel
theorem dX4_derives_15 : decode cX4_derives 15 = .ok (.istore_n 2, 1) := by decide +kernel
theorem dX4_derives_16 : decode cX4_derives 16 = .ok (.iload_n 2, 1) := by decide +kernel
theorem dX4_derives_17 : decode cX4_derives 17 = .ok (.ifCond .eq 96, 3) := by decide +kernel
theorem dX4_derives_20 : decode cX4_derives 20 = .ok (.iconst 0, 1) := by decide +kernel
theorem dX4_derives_21 : decode cX4_derives 21 = .ok (.istore_n 2, 1) := by decide +kernel
theorem dX4_derives_22 : decode cX4_derives 22 = .ok (.iconst 0, 1) := by decide +kernel
theorem dX4_derives_23 : decode cX4_derives 23 = .ok (.istore_n 3, 1) := by decide +kernel
theorem dX4_derives_24 : decode cX4_derives 24 = .ok (.iload_n 3, 1) := by decide +kernel
theorem dX4_derives_25 : decode cX4_derives 25 = .ok (.aload_n 0, 1) := by decide +kernel
theorem dX4_derives_26 : decode cX4_derives 26 = .ok (.getfield 74, 3) := by decide +kernel
theorem dX4_derives_29 : decode cX4_derives 29 = .ok (.if_icmp .ge 60, 3) := by decide +kernel
theorem dX4_derives_32 : decode cX4_derives 32 = .ok (.aload_n 0, 1) := by decide +kernel
theorem dX4_derives_33 : decode cX4_derives 33 = .ok (.getfield 7, 3) := by decide +kernel
theorem dX4_derives_36 : decode cX4_derives 36 = .ok (.iconst 2, 1) := by decide +kernel
theorem dX4_derives_37 : decode cX4_derives 37 = .ok (.iaload, 1) := by decide +kernel
theorem dX4_derives_38 : decode cX4_derives 38 = .ok (.bipush (-100), 2) := by decide +kernel
theorem dX4_derives_40 : decode cX4_derives 40 = .ok (.if_icmp .ne 49, 3) := by decide +kernel
theorem dX4_derives_43 : decode cX4_derives 43 = .ok (.aload_n 0, 1) := by decide +kernel
theorem dX4_derives_44 : decode cX4_derives 44 = .ok (.iload_n 3, 1) := by decide +kernel
theorem dX4_derives_45 : decode cX4_derives 45 = .ok (.invokevirtual 164, 3) := by decide +kernel
theorem dX4_derives_48 : decode cX4_derives 48 = .ok (.istore 4, 2) := by decide +kernel
theorem dX4_derives_50 : decode cX4_derives 50 = .ok (.iload_n 2, 1) := by decide +kernel
theorem dX4_derives_51 : decode cX4_derives 51 = .ok (.ifCond .ne 9, 3) := by decide +kernel
theorem dX4_derives_54 : decode cX4_derives 54 = .ok (.iload 4, 2) := by decide +kernel
theorem dX4_derives_56 : decode cX4_derives 56 = .ok (.iconst 1, 1) := by decide +kernel
theorem dX4_derives_57 : decode cX4_derives 57 = .ok (.if_icmp .ne 7, 3) := by decide +kernel
theorem dX4_derives_60 : decode cX4_derives 60 = .ok (.iconst 1, 1) := by decide +kernel
theorem dX4_derives_61 : decode cX4_derives 61 = .ok (.goto 4, 3) := by decide +kernel
theorem dX4_derives_64 : decode cX4_derives 64 = .ok (.iconst 0, 1) := by decide +kernel
theorem dX4_derives_65 : decode cX4_derives 65 = .ok (.istore_n 2, 1) := by decide +kernel
theorem dX4_derives_66 : decode cX4_derives 66 = .ok (.aload_n 0, 1) := by decide +kernel
theorem dX4_derives_67 : decode cX4_derives 67 = .ok (.getfield 7, 3) := by decide +kernel
theorem dX4_derives_70 : decode cX4_derives 70 = .ok (.iconst 2, 1) := by decide +kernel
theorem dX4_derives_71 : decode cX4_derives 71 = .ok (.iload 4, 2) := by decide +kernel
theorem dX4_derives_73 : decode cX4_derives 73 = .ok (.ifCond .ge 7, 3) := by decide +kernel
theorem dX4_derives_76 : decode cX4_derives 76 = .ok (.iload_n 3, 1) := by decide +kernel
theorem dX4_derives_77 : decode cX4_derives 77 = .ok (.goto 5, 3) := by decide +kernel
theorem dX4_derives_80 : decode cX4_derives 80 = .ok (.bipush (-100), 2) := by decide +kernel
theorem dX4_derives_82 : decode cX4_derives 82 = .ok (.iastore, 1) := by decide +kernel
theorem dX4_derives_83 : decode cX4_derives 83 = .ok (.iinc 3 1, 3) := by decide +kernel
theorem dX4_derives_86 : decode cX4_derives 86 = .ok (.goto (-62), 3) := by decide +kernel
theorem dX4_derives_89 : decode cX4_derives 89 = .ok (.iload_n 2, 1) := by decide +kernel
theorem dX4_derives_90 : decode cX4_derives 90 = .ok (.ifCond .eq 18, 3) := by decide +kernel
theorem dX4_derives_93 : decode cX4_derives 93 = .ok (.aload_n 0, 1) := by decide +kernel
theorem dX4_derives_94 : decode cX4_derives 94 = .ok (.getfield 7, 3) := by decide +kernel
theorem dX4_derives_97 : decode cX4_derives 97 = .ok (.iconst 2, 1) := by decide +kernel
theorem dX4_derives_98 : decode cX4_derives 98 = .ok (.iaload, 1) := by decide +kernel
theorem dX4_derives_99 : decode cX4_derives 99 = .ok (.bipush (-100), 2) := by decide +kernel
theorem dX4_derives_101 : decode cX4_derives 101 = .ok (.if_icmp .ne 7, 3) := by decide +kernel
theorem dX4_derives_104 : decode cX4_derives 104 = .ok (.iconst 1, 1) := by decide +kernel
theorem dX4_derives_105 : decode cX4_derives 105 = .ok (.goto 4, 3) := by decide +kernel
theorem dX4_derives_108 : decode cX4_derives 108 = .ok (.iconst 0, 1) := by decide +kernel
theorem dX4_derives_109 : decode cX4_derives 109 = .ok (.istore_n 2, 1) := by decide +kernel
theorem dX4_derives_110 : decode cX4_derives 110 = .ok (.goto (-94), 3) := by decide +kernel
theorem dX4_derives_113 : decode cX4_derives 113 = .ok (.aload_n 0, 1) := by decide +kernel
theorem dX4_derives_114 : decode cX4_derives 114 = .ok (.iconst 2, 1) := by decide +kernel
theorem dX4_derives_115 : decode cX4_derives 115 = .ok (.invokevirtual 161, 3) := by decide +kernel
theorem dX4_derives_118 : decode cX4_derives 118 = .ok (.iload_n 1, 1) := by decide +kernel
theorem dX4_derives_119 : decode cX4_derives 119 = .ok (.isub, 1) := by decide +kernel
theorem dX4_derives_120 : decode cX4_derives 120 = .ok (.ireturn, 1) := by decide +kernel
theorem dX4_derive_0 : decode cX4_derive 0 = .ok (.aload_n 0, 1) := by decide +kernel
theorem dX4_derive_1 : decode cX4_derive 1 = .ok (.invokevirtual 116, 3) := by decide +kernel
theorem dX4_derive_4 : decode cX4_derive 4 = .ok (.aload_n 0, 1) := by decide +kernel
theorem dX4_derive_5 : decode cX4_derive 5 = .ok (.aload_n 0, 1) := by decide +kernel
theorem dX4_derive_6 : decode cX4_derive 6 = .ok (.invokevirtual 167, 3) := by decide +kernel
theorem dX4_derive_9 : decode cX4_derive 9 = .ok (.invokevirtual 119, 3) := by decide +kernel
theorem dX4_derive_12 : decode cX4_derive 12 = .ok (.ireturn, 1) := by decide +kernel
theorem dX4_forget_0 : decode cX4_forget 0 = .ok (.aload_n 0, 1) := by decide +kernel
theorem dX4_forget_1 : decode cX4_forget 1 = .ok (.invokevirtual 116, 3) := by decide +kernel
theorem dX4_forget_4 : decode cX4_forget 4 = .ok (.aload_n 0, 1) := by decide +kernel
theorem dX4_forget_5 : decode cX4_forget 5 = .ok (.aload_n 0, 1) := by decide +kernel
theorem dX4_forget_6 : decode cX4_forget 6 = .ok (.invokevirtual 122, 3) := by decide +kernel
theorem dX4_forget_9 : decode cX4_forget 9 = .ok (.invokevirtual 119, 3) := by decide +kernel
theorem dX4_forget_12 : decode cX4_forget 12 = .ok (.ireturn, 1) := by decide +kernel
theorem dX4_flips_0 : decode cX4_flips 0 = .ok (.iconst 0, 1) := by decide +kernel
theorem dX4_flips_1 : decode cX4_flips 1 = .ok (.istore_n 2, 1) := by decide +kernel
theorem dX4_flips_2 : decode cX4_flips 2 = .ok (.iconst 0, 1) := by decide +kernel
theorem dX4_flips_3 : decode cX4_flips 3 = .ok (.istore_n 3, 1) := by decide +kernel
theorem dX4_flips_4 : decode cX4_flips 4 = .ok (.iload_n 3, 1) := by decide +kernel
theorem dX4_flips_5 : decode cX4_flips 5 = .ok (.aload_n 0, 1) := by decide +kernel
theorem dX4_flips_6 : decode cX4_flips 6 = .ok (.getfield 71, 3) := by decide +kernel
theorem dX4_flips_9 : decode cX4_flips 9 = .ok (.if_icmp .ge 94, 3) := by decide +kernel
theorem dX4_flips_12 : decode cX4_flips 12 = .ok (.iload_n 1, 1) := by decide +kernel
theorem dX4_flips_13 : decode cX4_flips 13 = .ok (.bipush (-100), 2) := by decide +kernel
theorem dX4_flips_15 : decode cX4_flips 15 = .ok (.if_icmp .eq 43, 3) := by decide +kernel
theorem dX4_flips_18 : decode cX4_flips 18 = .ok (.aload_n 0, 1) := by decide +kernel
theorem dX4_flips_19 : decode cX4_flips 19 = .ok (.getfield 22, 3) := by decide +kernel
theorem dX4_flips_22 : decode cX4_flips 22 = .ok (.iconst 3, 1) := by decide +kernel
theorem dX4_flips_23 : decode cX4_flips 23 = .ok (.iload_n 3, 1) := by decide +kernel
theorem dX4_flips_24 : decode cX4_flips 24 = .ok (.imul, 1) := by decide +kernel
theorem dX4_flips_25 : decode cX4_flips 25 = .ok (.iaload, 1) := by decide +kernel
theorem dX4_flips_26 : decode cX4_flips 26 = .ok (.iload_n 1, 1) := by decide +kernel
theorem dX4_flips_27 : decode cX4_flips 27 = .ok (.if_icmp .eq 31, 3) := by decide +kernel
theorem dX4_flips_30 : decode cX4_flips 30 = .ok (.aload_n 0, 1) := by decide +kernel
theorem dX4_flips_31 : decode cX4_flips 31 = .ok (.getfield 22, 3) := by decide +kernel
theorem dX4_flips_34 : decode cX4_flips 34 = .ok (.iconst 3, 1) := by decide +kernel
theorem dX4_flips_35 : decode cX4_flips 35 = .ok (.iload_n 3, 1) := by decide +kernel
theorem dX4_flips_36 : decode cX4_flips 36 = .ok (.imul, 1) := by decide +kernel
theorem dX4_flips_37 : decode cX4_flips 37 = .ok (.iconst 1, 1) := by decide +kernel
theorem dX4_flips_38 : decode cX4_flips 38 = .ok (.iadd, 1) := by decide +kernel
theorem dX4_flips_39 : decode cX4_flips 39 = .ok (.iaload, 1) := by decide +kernel
theorem dX4_flips_40 : decode cX4_flips 40 = .ok (.iload_n 1, 1) := by decide +kernel
theorem dX4_flips_41 : decode cX4_flips 41 = .ok (.if_icmp .eq 17, 3) := by decide +kernel
theorem dX4_flips_44 : decode cX4_flips 44 = .ok (.aload_n 0, 1) := by decide +kernel
theorem dX4_flips_45 : decode cX4_flips 45 = .ok (.getfield 22, 3) := by decide +kernel
theorem dX4_flips_48 : decode cX4_flips 48 = .ok (.iconst 3, 1) := by decide +kernel
theorem dX4_flips_49 : decode cX4_flips 49 = .ok (.iload_n 3, 1) := by decide +kernel
theorem dX4_flips_50 : decode cX4_flips 50 = .ok (.imul, 1) := by decide +kernel
theorem dX4_flips_51 : decode cX4_flips 51 = .ok (.iconst 2, 1) := by decide +kernel
theorem dX4_flips_52 : decode cX4_flips 52 = .ok (.iadd, 1) := by decide +kernel
theorem dX4_flips_53 : decode cX4_flips 53 = .ok (.iaload, 1) := by decide +kernel
theorem dX4_flips_54 : decode cX4_flips 54 = .ok (.iload_n 1, 1) := by decide +kernel
theorem dX4_flips_55 : decode cX4_flips 55 = .ok (.if_icmp .ne 7, 3) := by decide +kernel
theorem dX4_flips_58 : decode cX4_flips 58 = .ok (.iconst 1, 1) := by decide +kernel
theorem dX4_flips_59 : decode cX4_flips 59 = .ok (.goto 4, 3) := by decide +kernel
theorem dX4_flips_62 : decode cX4_flips 62 = .ok (.iconst 0, 1) := by decide +kernel
theorem dX4_flips_63 : decode cX4_flips 63 = .ok (.istore 4, 2) := by decide +kernel
theorem dX4_flips_65 : decode cX4_flips 65 = .ok (.iload 4, 2) := by decide +kernel
theorem dX4_flips_67 : decode cX4_flips 67 = .ok (.ifCond .eq 30, 3) := by decide +kernel
theorem dX4_flips_70 : decode cX4_flips 70 = .ok (.aload_n 0, 1) := by decide +kernel
theorem dX4_flips_71 : decode cX4_flips 71 = .ok (.iload_n 3, 1) := by decide +kernel
theorem dX4_flips_72 : decode cX4_flips 72 = .ok (.iconst 0, 1) := by decide +kernel
theorem dX4_flips_73 : decode cX4_flips 73 = .ok (.invokevirtual 106, 3) := by decide +kernel
theorem dX4_flips_76 : decode cX4_flips 76 = .ok (.bipush (-100), 2) := by decide +kernel
theorem dX4_flips_78 : decode cX4_flips 78 = .ok (.if_icmp .eq 19, 3) := by decide +kernel
theorem dX4_flips_81 : decode cX4_flips 81 = .ok (.aload_n 0, 1) := by decide +kernel
theorem dX4_flips_82 : decode cX4_flips 82 = .ok (.iload_n 3, 1) := by decide +kernel
theorem dX4_flips_83 : decode cX4_flips 83 = .ok (.iconst 0, 1) := by decide +kernel
theorem dX4_flips_84 : decode cX4_flips 84 = .ok (.aload_n 0, 1) := by decide +kernel
theorem dX4_flips_85 : decode cX4_flips 85 = .ok (.iload_n 3, 1) := by decide +kernel
theorem dX4_flips_86 : decode cX4_flips 86 = .ok (.iconst 0, 1) := by decide +kernel
theorem dX4_flips_87 : decode cX4_flips 87 = .ok (.invokevirtual 106, 3) := by decide +kernel
theorem dX4_flips_90 : decode cX4_flips 90 = .ok (.ineg, 1) := by decide +kernel
theorem dX4_flips_91 : decode cX4_flips 91 = .ok (.invokevirtual 87, 3) := by decide +kernel
theorem dX4_flips_94 : decode cX4_flips 94 = .ok (.iinc 2 1, 3) := by decide +kernel
theorem dX4_flips_97 : decode cX4_flips 97 = .ok (.iinc 3 1, 3) := by decide +kernel
theorem dX4_flips_100 : decode cX4_flips 100 = .ok (.goto (-96), 3) := by decide +kernel
theorem dX4_flips_103 : decode cX4_flips 103 = .ok (.iload_n 2, 1) := by decide +kernel
theorem dX4_flips_104 : decode cX4_flips 104 = .ok (.ireturn, 1) := by decide +kernel
theorem dX4_mirror_0 : decode cX4_mirror 0 = .ok (.aload_n 0, 1) := by decide +kernel
theorem dX4_mirror_1 : decode cX4_mirror 1 = .ok (.invokevirtual 116, 3) := by decide +kernel
theorem dX4_mirror_4 : decode cX4_mirror 4 = .ok (.aload_n 0, 1) := by decide +kernel
theorem dX4_mirror_5 : decode cX4_mirror 5 = .ok (.aload_n 0, 1) := by decide +kernel
theorem dX4_mirror_6 : decode cX4_mirror 6 = .ok (.bipush (-100), 2) := by decide +kernel
theorem dX4_mirror_8 : decode cX4_mirror 8 = .ok (.invokevirtual 170, 3) := by decide +kernel
theorem dX4_mirror_11 : decode cX4_mirror 11 = .ok (.invokevirtual 119, 3) := by decide +kernel
theorem dX4_mirror_14 : decode cX4_mirror 14 = .ok (.ireturn, 1) := by decide +kernel
theorem dX4_turn_0 : decode cX4_turn 0 = .ok (.aload_n 0, 1) := by decide +kernel
theorem dX4_turn_1 : decode cX4_turn 1 = .ok (.iload_n 1, 1) := by decide +kernel
theorem dX4_turn_2 : decode cX4_turn 2 = .ok (.invokevirtual 95, 3) := by decide +kernel
theorem dX4_turn_5 : decode cX4_turn 5 = .ok (.ifCond .ne 9, 3) := by decide +kernel
theorem dX4_turn_8 : decode cX4_turn 8 = .ok (.aload_n 0, 1) := by decide +kernel
theorem dX4_turn_9 : decode cX4_turn 9 = .ok (.iconst 1, 1) := by decide +kernel
theorem dX4_turn_10 : decode cX4_turn 10 = .ok (.invokevirtual 113, 3) := by decide +kernel
theorem dX4_turn_13 : decode cX4_turn 13 = .ok (.ireturn, 1) := by decide +kernel
theorem dX4_turn_14 : decode cX4_turn 14 = .ok (.aload_n 0, 1) := by decide +kernel
theorem dX4_turn_15 : decode cX4_turn 15 = .ok (.invokevirtual 116, 3) := by decide +kernel
theorem dX4_turn_18 : decode cX4_turn 18 = .ok (.aload_n 0, 1) := by decide +kernel
theorem dX4_turn_19 : decode cX4_turn 19 = .ok (.aload_n 0, 1) := by decide +kernel
theorem dX4_turn_20 : decode cX4_turn 20 = .ok (.iload_n 1, 1) := by decide +kernel
theorem dX4_turn_21 : decode cX4_turn 21 = .ok (.invokevirtual 170, 3) := by decide +kernel
theorem dX4_turn_24 : decode cX4_turn 24 = .ok (.invokevirtual 119, 3) := by decide +kernel
theorem dX4_turn_27 : decode cX4_turn 27 = .ok (.ireturn, 1) := by decide +kernel
theorem dX4_exchanged_0 : decode cX4_exchanged 0 = .ok (.iload_n 0, 1) := by decide +kernel
theorem dX4_exchanged_1 : decode cX4_exchanged 1 = .ok (.iload_n 1, 1) := by decide +kernel
theorem dX4_exchanged_2 : decode cX4_exchanged 2 = .ok (.if_icmp .ne 7, 3) := by decide +kernel
theorem dX4_exchanged_5 : decode cX4_exchanged 5 = .ok (.iload_n 2, 1) := by decide +kernel
theorem dX4_exchanged_6 : decode cX4_exchanged 6 = .ok (.goto 13, 3) := by decide +kernel
theorem dX4_exchanged_9 : decode cX4_exchanged 9 = .ok (.iload_n 0, 1) := by decide +kernel
theorem dX4_exchanged_10 : decode cX4_exchanged 10 = .ok (.iload_n 2, 1) := by decide +kernel
theorem dX4_exchanged_11 : decode cX4_exchanged 11 = .ok (.if_icmp .ne 7, 3) := by decide +kernel
theorem dX4_exchanged_14 : decode cX4_exchanged 14 = .ok (.iload_n 1, 1) := by decide +kernel
theorem dX4_exchanged_15 : decode cX4_exchanged 15 = .ok (.goto 4, 3) := by decide +kernel
theorem dX4_exchanged_18 : decode cX4_exchanged 18 = .ok (.iload_n 0, 1) := by decide +kernel
theorem dX4_exchanged_19 : decode cX4_exchanged 19 = .ok (.ireturn, 1) := by decide +kernel
theorem dX4_exchange_0 : decode cX4_exchange 0 = .ok (.aload_n 0, 1) := by decide +kernel
theorem dX4_exchange_1 : decode cX4_exchange 1 = .ok (.iload_n 1, 1) := by decide +kernel
theorem dX4_exchange_2 : decode cX4_exchange 2 = .ok (.invokevirtual 95, 3) := by decide +kernel
theorem dX4_exchange_5 : decode cX4_exchange 5 = .ok (.ifCond .eq 11, 3) := by decide +kernel
theorem dX4_exchange_8 : decode cX4_exchange 8 = .ok (.aload_n 0, 1) := by decide +kernel
theorem dX4_exchange_9 : decode cX4_exchange 9 = .ok (.iload_n 2, 1) := by decide +kernel
theorem dX4_exchange_10 : decode cX4_exchange 10 = .ok (.invokevirtual 95, 3) := by decide +kernel
theorem dX4_exchange_13 : decode cX4_exchange 13 = .ok (.ifCond .ne 9, 3) := by decide +kernel
theorem dX4_exchange_16 : decode cX4_exchange 16 = .ok (.aload_n 0, 1) := by decide +kernel
theorem dX4_exchange_17 : decode cX4_exchange 17 = .ok (.iconst 1, 1) := by decide +kernel
theorem dX4_exchange_18 : decode cX4_exchange 18 = .ok (.invokevirtual 113, 3) := by decide +kernel
theorem dX4_exchange_21 : decode cX4_exchange 21 = .ok (.ireturn, 1) := by decide +kernel
theorem dX4_exchange_22 : decode cX4_exchange 22 = .ok (.iload_n 1, 1) := by decide +kernel
theorem dX4_exchange_23 : decode cX4_exchange 23 = .ok (.iload_n 2, 1) := by decide +kernel
theorem dX4_exchange_24 : decode cX4_exchange 24 = .ok (.if_icmp .ne 9, 3) := by decide +kernel
theorem dX4_exchange_27 : decode cX4_exchange 27 = .ok (.aload_n 0, 1) := by decide +kernel
theorem dX4_exchange_28 : decode cX4_exchange 28 = .ok (.iconst 2, 1) := by decide +kernel
theorem dX4_exchange_29 : decode cX4_exchange 29 = .ok (.invokevirtual 113, 3) := by decide +kernel
theorem dX4_exchange_32 : decode cX4_exchange 32 = .ok (.ireturn, 1) := by decide +kernel
theorem dX4_exchange_33 : decode cX4_exchange 33 = .ok (.aload_n 0, 1) := by decide +kernel
theorem dX4_exchange_34 : decode cX4_exchange 34 = .ok (.invokevirtual 116, 3) := by decide +kernel
theorem dX4_exchange_37 : decode cX4_exchange 37 = .ok (.aload_n 0, 1) := by decide +kernel
theorem dX4_exchange_38 : decode cX4_exchange 38 = .ok (.invokevirtual 122, 3) := by decide +kernel
theorem dX4_exchange_41 : decode cX4_exchange 41 = .ok (.istore_n 3, 1) := by decide +kernel
theorem dX4_exchange_42 : decode cX4_exchange 42 = .ok (.iconst 0, 1) := by decide +kernel
theorem dX4_exchange_43 : decode cX4_exchange 43 = .ok (.istore 4, 2) := by decide +kernel
theorem dX4_exchange_45 : decode cX4_exchange 45 = .ok (.iload 4, 2) := by decide +kernel
theorem dX4_exchange_47 : decode cX4_exchange 47 = .ok (.aload_n 0, 1) := by decide +kernel
theorem dX4_exchange_48 : decode cX4_exchange 48 = .ok (.getfield 71, 3) := by decide +kernel
theorem dX4_exchange_51 : decode cX4_exchange 51 = .ok (.if_icmp .ge 66, 3) := by decide +kernel
theorem dX4_exchange_54 : decode cX4_exchange 54 = .ok (.aload_n 0, 1) := by decide +kernel
theorem dX4_exchange_55 : decode cX4_exchange 55 = .ok (.getfield 37, 3) := by decide +kernel
theorem dX4_exchange_58 : decode cX4_exchange 58 = .ok (.iload 4, 2) := by decide +kernel
theorem dX4_exchange_60 : decode cX4_exchange 60 = .ok (.aload_n 0, 1) := by decide +kernel
theorem dX4_exchange_61 : decode cX4_exchange 61 = .ok (.aload_n 0, 1) := by decide +kernel
theorem dX4_exchange_62 : decode cX4_exchange 62 = .ok (.getfield 22, 3) := by decide +kernel
theorem dX4_exchange_65 : decode cX4_exchange 65 = .ok (.iconst 3, 1) := by decide +kernel
theorem dX4_exchange_66 : decode cX4_exchange 66 = .ok (.iload 4, 2) := by decide +kernel
theorem dX4_exchange_68 : decode cX4_exchange 68 = .ok (.imul, 1) := by decide +kernel
theorem dX4_exchange_69 : decode cX4_exchange 69 = .ok (.iaload, 1) := by decide +kernel
theorem dX4_exchange_70 : decode cX4_exchange 70 = .ok (.iload_n 1, 1) := by decide +kernel
theorem dX4_exchange_71 : decode cX4_exchange 71 = .ok (.iload_n 2, 1) := by decide +kernel
theorem dX4_exchange_72 : decode cX4_exchange 72 = .ok (.invokestatic 173, 3) := by decide +kernel
theorem dX4_exchange_75 : decode cX4_exchange 75 = .ok (.aload_n 0, 1) := by decide +kernel
theorem dX4_exchange_76 : decode cX4_exchange 76 = .ok (.getfield 22, 3) := by decide +kernel
theorem dX4_exchange_79 : decode cX4_exchange 79 = .ok (.iconst 3, 1) := by decide +kernel
theorem dX4_exchange_80 : decode cX4_exchange 80 = .ok (.iload 4, 2) := by decide +kernel
theorem dX4_exchange_82 : decode cX4_exchange 82 = .ok (.imul, 1) := by decide +kernel
theorem dX4_exchange_83 : decode cX4_exchange 83 = .ok (.iconst 1, 1) := by decide +kernel
theorem dX4_exchange_84 : decode cX4_exchange 84 = .ok (.iadd, 1) := by decide +kernel
theorem dX4_exchange_85 : decode cX4_exchange 85 = .ok (.iaload, 1) := by decide +kernel
theorem dX4_exchange_86 : decode cX4_exchange 86 = .ok (.iload_n 1, 1) := by decide +kernel
theorem dX4_exchange_87 : decode cX4_exchange 87 = .ok (.iload_n 2, 1) := by decide +kernel
theorem dX4_exchange_88 : decode cX4_exchange 88 = .ok (.invokestatic 173, 3) := by decide +kernel
theorem dX4_exchange_91 : decode cX4_exchange 91 = .ok (.aload_n 0, 1) := by decide +kernel
theorem dX4_exchange_92 : decode cX4_exchange 92 = .ok (.getfield 22, 3) := by decide +kernel
theorem dX4_exchange_95 : decode cX4_exchange 95 = .ok (.iconst 3, 1) := by decide +kernel
theorem dX4_exchange_96 : decode cX4_exchange 96 = .ok (.iload 4, 2) := by decide +kernel
theorem dX4_exchange_98 : decode cX4_exchange 98 = .ok (.imul, 1) := by decide +kernel
theorem dX4_exchange_99 : decode cX4_exchange 99 = .ok (.iconst 2, 1) := by decide +kernel
theorem dX4_exchange_100 : decode cX4_exchange 100 = .ok (.iadd, 1) := by decide +kernel
theorem dX4_exchange_101 : decode cX4_exchange 101 = .ok (.iaload, 1) := by decide +kernel
theorem dX4_exchange_102 : decode cX4_exchange 102 = .ok (.iload_n 1, 1) := by decide +kernel
theorem dX4_exchange_103 : decode cX4_exchange 103 = .ok (.iload_n 2, 1) := by decide +kernel
theorem dX4_exchange_104 : decode cX4_exchange 104 = .ok (.invokestatic 173, 3) := by decide +kernel
theorem dX4_exchange_107 : decode cX4_exchange 107 = .ok (.invokevirtual 129, 3) := by decide +kernel
theorem dX4_exchange_110 : decode cX4_exchange 110 = .ok (.iastore, 1) := by decide +kernel
theorem dX4_exchange_111 : decode cX4_exchange 111 = .ok (.iinc 4 1, 3) := by decide +kernel
theorem dX4_exchange_114 : decode cX4_exchange 114 = .ok (.goto (-69), 3) := by decide +kernel
theorem dX4_exchange_117 : decode cX4_exchange 117 = .ok (.iconst 0, 1) := by decide +kernel
theorem dX4_exchange_118 : decode cX4_exchange 118 = .ok (.istore 4, 2) := by decide +kernel
theorem dX4_exchange_120 : decode cX4_exchange 120 = .ok (.iload 4, 2) := by decide +kernel
theorem dX4_exchange_122 : decode cX4_exchange 122 = .ok (.aload_n 0, 1) := by decide +kernel
theorem dX4_exchange_123 : decode cX4_exchange 123 = .ok (.getfield 71, 3) := by decide +kernel
theorem dX4_exchange_126 : decode cX4_exchange 126 = .ok (.if_icmp .ge 53, 3) := by decide +kernel
theorem dX4_exchange_129 : decode cX4_exchange 129 = .ok (.aload_n 0, 1) := by decide +kernel
theorem dX4_exchange_130 : decode cX4_exchange 130 = .ok (.iload 4, 2) := by decide +kernel
theorem dX4_exchange_132 : decode cX4_exchange 132 = .ok (.invokevirtual 81, 3) := by decide +kernel
theorem dX4_exchange_135 : decode cX4_exchange 135 = .ok (.aload_n 0, 1) := by decide +kernel
theorem dX4_exchange_136 : decode cX4_exchange 136 = .ok (.iload 4, 2) := by decide +kernel
theorem dX4_exchange_138 : decode cX4_exchange 138 = .ok (.iconst 0, 1) := by decide +kernel
theorem dX4_exchange_139 : decode cX4_exchange 139 = .ok (.aload_n 0, 1) := by decide +kernel
theorem dX4_exchange_140 : decode cX4_exchange 140 = .ok (.getfield 37, 3) := by decide +kernel
theorem dX4_exchange_143 : decode cX4_exchange 143 = .ok (.iload 4, 2) := by decide +kernel
theorem dX4_exchange_145 : decode cX4_exchange 145 = .ok (.iaload, 1) := by decide +kernel
theorem dX4_exchange_146 : decode cX4_exchange 146 = .ok (.invokevirtual 87, 3) := by decide +kernel
theorem dX4_exchange_149 : decode cX4_exchange 149 = .ok (.aload_n 0, 1) := by decide +kernel
theorem dX4_exchange_150 : decode cX4_exchange 150 = .ok (.iload 4, 2) := by decide +kernel
theorem dX4_exchange_152 : decode cX4_exchange 152 = .ok (.iconst 1, 1) := by decide +kernel
theorem dX4_exchange_153 : decode cX4_exchange 153 = .ok (.aload_n 0, 1) := by decide +kernel
theorem dX4_exchange_154 : decode cX4_exchange 154 = .ok (.getfield 37, 3) := by decide +kernel
theorem dX4_exchange_157 : decode cX4_exchange 157 = .ok (.iload 4, 2) := by decide +kernel
theorem dX4_exchange_159 : decode cX4_exchange 159 = .ok (.iaload, 1) := by decide +kernel
theorem dX4_exchange_160 : decode cX4_exchange 160 = .ok (.bipush (-100), 2) := by decide +kernel
theorem dX4_exchange_162 : decode cX4_exchange 162 = .ok (.if_icmp .ne 7, 3) := by decide +kernel
theorem dX4_exchange_165 : decode cX4_exchange 165 = .ok (.iconst 0, 1) := by decide +kernel
theorem dX4_exchange_166 : decode cX4_exchange 166 = .ok (.goto 4, 3) := by decide +kernel
theorem dX4_exchange_169 : decode cX4_exchange 169 = .ok (.iconst 1, 1) := by decide +kernel
theorem dX4_exchange_170 : decode cX4_exchange 170 = .ok (.invokevirtual 87, 3) := by decide +kernel
theorem dX4_exchange_173 : decode cX4_exchange 173 = .ok (.iinc 4 1, 3) := by decide +kernel
theorem dX4_exchange_176 : decode cX4_exchange 176 = .ok (.goto (-56), 3) := by decide +kernel
theorem dX4_exchange_179 : decode cX4_exchange 179 = .ok (.iconst 0, 1) := by decide +kernel
theorem dX4_exchange_180 : decode cX4_exchange 180 = .ok (.istore 4, 2) := by decide +kernel
theorem dX4_exchange_182 : decode cX4_exchange 182 = .ok (.iload 4, 2) := by decide +kernel
theorem dX4_exchange_184 : decode cX4_exchange 184 = .ok (.iconst 2, 1) := by decide +kernel
theorem dX4_exchange_185 : decode cX4_exchange 185 = .ok (.if_icmp .ge 73, 3) := by decide +kernel
theorem dX4_exchange_188 : decode cX4_exchange 188 = .ok (.aload_n 0, 1) := by decide +kernel
theorem dX4_exchange_189 : decode cX4_exchange 189 = .ok (.getfield 7, 3) := by decide +kernel
theorem dX4_exchange_192 : decode cX4_exchange 192 = .ok (.sipush 227, 3) := by decide +kernel
theorem dX4_exchange_195 : decode cX4_exchange 195 = .ok (.iconst 2, 1) := by decide +kernel
theorem dX4_exchange_196 : decode cX4_exchange 196 = .ok (.iload_n 1, 1) := by decide +kernel
theorem dX4_exchange_197 : decode cX4_exchange 197 = .ok (.imul, 1) := by decide +kernel
theorem dX4_exchange_198 : decode cX4_exchange 198 = .ok (.iadd, 1) := by decide +kernel
theorem dX4_exchange_199 : decode cX4_exchange 199 = .ok (.iload 4, 2) := by decide +kernel
theorem dX4_exchange_201 : decode cX4_exchange 201 = .ok (.iadd, 1) := by decide +kernel
theorem dX4_exchange_202 : decode cX4_exchange 202 = .ok (.iaload, 1) := by decide +kernel
theorem dX4_exchange_203 : decode cX4_exchange 203 = .ok (.istore 5, 2) := by decide +kernel
theorem dX4_exchange_205 : decode cX4_exchange 205 = .ok (.aload_n 0, 1) := by decide +kernel
theorem dX4_exchange_206 : decode cX4_exchange 206 = .ok (.getfield 7, 3) := by decide +kernel
theorem dX4_exchange_209 : decode cX4_exchange 209 = .ok (.sipush 227, 3) := by decide +kernel
theorem dX4_exchange_212 : decode cX4_exchange 212 = .ok (.iconst 2, 1) := by decide +kernel
theorem dX4_exchange_213 : decode cX4_exchange 213 = .ok (.iload_n 1, 1) := by decide +kernel
theorem dX4_exchange_214 : decode cX4_exchange 214 = .ok (.imul, 1) := by decide +kernel
theorem dX4_exchange_215 : decode cX4_exchange 215 = .ok (.iadd, 1) := by decide +kernel
theorem dX4_exchange_216 : decode cX4_exchange 216 = .ok (.iload 4, 2) := by decide +kernel
theorem dX4_exchange_218 : decode cX4_exchange 218 = .ok (.iadd, 1) := by decide +kernel
theorem dX4_exchange_219 : decode cX4_exchange 219 = .ok (.aload_n 0, 1) := by decide +kernel
theorem dX4_exchange_220 : decode cX4_exchange 220 = .ok (.getfield 7, 3) := by decide +kernel
theorem dX4_exchange_223 : decode cX4_exchange 223 = .ok (.sipush 227, 3) := by decide +kernel
theorem dX4_exchange_226 : decode cX4_exchange 226 = .ok (.iconst 2, 1) := by decide +kernel
theorem dX4_exchange_227 : decode cX4_exchange 227 = .ok (.iload_n 2, 1) := by decide +kernel
theorem dX4_exchange_228 : decode cX4_exchange 228 = .ok (.imul, 1) := by decide +kernel
theorem dX4_exchange_229 : decode cX4_exchange 229 = .ok (.iadd, 1) := by decide +kernel
theorem dX4_exchange_230 : decode cX4_exchange 230 = .ok (.iload 4, 2) := by decide +kernel
theorem dX4_exchange_232 : decode cX4_exchange 232 = .ok (.iadd, 1) := by decide +kernel
theorem dX4_exchange_233 : decode cX4_exchange 233 = .ok (.iaload, 1) := by decide +kernel
theorem dX4_exchange_234 : decode cX4_exchange 234 = .ok (.iastore, 1) := by decide +kernel
theorem dX4_exchange_235 : decode cX4_exchange 235 = .ok (.aload_n 0, 1) := by decide +kernel
theorem dX4_exchange_236 : decode cX4_exchange 236 = .ok (.getfield 7, 3) := by decide +kernel
theorem dX4_exchange_239 : decode cX4_exchange 239 = .ok (.sipush 227, 3) := by decide +kernel
theorem dX4_exchange_242 : decode cX4_exchange 242 = .ok (.iconst 2, 1) := by decide +kernel
theorem dX4_exchange_243 : decode cX4_exchange 243 = .ok (.iload_n 2, 1) := by decide +kernel
theorem dX4_exchange_244 : decode cX4_exchange 244 = .ok (.imul, 1) := by decide +kernel
theorem dX4_exchange_245 : decode cX4_exchange 245 = .ok (.iadd, 1) := by decide +kernel
theorem dX4_exchange_246 : decode cX4_exchange 246 = .ok (.iload 4, 2) := by decide +kernel
theorem dX4_exchange_248 : decode cX4_exchange 248 = .ok (.iadd, 1) := by decide +kernel
theorem dX4_exchange_249 : decode cX4_exchange 249 = .ok (.iload 5, 2) := by decide +kernel
theorem dX4_exchange_251 : decode cX4_exchange 251 = .ok (.iastore, 1) := by decide +kernel
theorem dX4_exchange_252 : decode cX4_exchange 252 = .ok (.iinc 4 1, 3) := by decide +kernel
theorem dX4_exchange_255 : decode cX4_exchange 255 = .ok (.goto (-73), 3) := by decide +kernel
theorem dX4_exchange_258 : decode cX4_exchange 258 = .ok (.aload_n 0, 1) := by decide +kernel
theorem dX4_exchange_259 : decode cX4_exchange 259 = .ok (.iload_n 3, 1) := by decide +kernel
theorem dX4_exchange_260 : decode cX4_exchange 260 = .ok (.ifCond .ge 7, 3) := by decide +kernel
theorem dX4_exchange_263 : decode cX4_exchange 263 = .ok (.iload_n 3, 1) := by decide +kernel
theorem dX4_exchange_264 : decode cX4_exchange 264 = .ok (.goto 8, 3) := by decide +kernel
theorem dX4_exchange_267 : decode cX4_exchange 267 = .ok (.aload_n 0, 1) := by decide +kernel
theorem dX4_exchange_268 : decode cX4_exchange 268 = .ok (.iconst 1, 1) := by decide +kernel
theorem dX4_exchange_269 : decode cX4_exchange 269 = .ok (.invokevirtual 161, 3) := by decide +kernel
theorem dX4_exchange_272 : decode cX4_exchange 272 = .ok (.invokevirtual 119, 3) := by decide +kernel
theorem dX4_exchange_275 : decode cX4_exchange 275 = .ok (.ireturn, 1) := by decide +kernel
theorem dX4_sign_0 : decode cX4_sign 0 = .ok (.aload_n 0, 1) := by decide +kernel
theorem dX4_sign_1 : decode cX4_sign 1 = .ok (.iload_n 1, 1) := by decide +kernel
theorem dX4_sign_2 : decode cX4_sign 2 = .ok (.iload_n 2, 1) := by decide +kernel
theorem dX4_sign_3 : decode cX4_sign 3 = .ok (.iload_n 3, 1) := by decide +kernel
theorem dX4_sign_4 : decode cX4_sign 4 = .ok (.invokevirtual 126, 3) := by decide +kernel
theorem dX4_sign_7 : decode cX4_sign 7 = .ok (.ifCond .eq 17, 3) := by decide +kernel
theorem dX4_sign_10 : decode cX4_sign 10 = .ok (.aload_n 0, 1) := by decide +kernel
theorem dX4_sign_11 : decode cX4_sign 11 = .ok (.aload_n 0, 1) := by decide +kernel
theorem dX4_sign_12 : decode cX4_sign 12 = .ok (.iload_n 1, 1) := by decide +kernel
theorem dX4_sign_13 : decode cX4_sign 13 = .ok (.iload_n 2, 1) := by decide +kernel
theorem dX4_sign_14 : decode cX4_sign 14 = .ok (.iload_n 3, 1) := by decide +kernel
theorem dX4_sign_15 : decode cX4_sign 15 = .ok (.invokevirtual 129, 3) := by decide +kernel
theorem dX4_sign_18 : decode cX4_sign 18 = .ok (.invokevirtual 67, 3) := by decide +kernel
theorem dX4_sign_21 : decode cX4_sign 21 = .ok (.goto 8, 3) := by decide +kernel
theorem dX4_sign_24 : decode cX4_sign 24 = .ok (.aload_n 0, 1) := by decide +kernel
theorem dX4_sign_25 : decode cX4_sign 25 = .ok (.iconst 1, 1) := by decide +kernel
theorem dX4_sign_26 : decode cX4_sign 26 = .ok (.invokevirtual 113, 3) := by decide +kernel
theorem dX4_sign_29 : decode cX4_sign 29 = .ok (.ireturn, 1) := by decide +kernel
theorem dX4_isTriple_0 : decode cX4_isTriple 0 = .ok (.iload_n 1, 1) := by decide +kernel
theorem dX4_isTriple_1 : decode cX4_isTriple 1 = .ok (.iconst 0, 1) := by decide +kernel
theorem dX4_isTriple_2 : decode cX4_isTriple 2 = .ok (.aload_n 0, 1) := by decide +kernel
theorem dX4_isTriple_3 : decode cX4_isTriple 3 = .ok (.getfield 71, 3) := by decide +kernel
theorem dX4_isTriple_6 : decode cX4_isTriple 6 = .ok (.iconst 1, 1) := by decide +kernel
theorem dX4_isTriple_7 : decode cX4_isTriple 7 = .ok (.isub, 1) := by decide +kernel
theorem dX4_isTriple_8 : decode cX4_isTriple 8 = .ok (.invokestatic 91, 3) := by decide +kernel
theorem dX4_isTriple_11 : decode cX4_isTriple 11 = .ok (.ireturn, 1) := by decide +kernel
theorem dX4_value_0 : decode cX4_value 0 = .ok (.iload_n 2, 1) := by decide +kernel
theorem dX4_value_1 : decode cX4_value 1 = .ok (.iconst 3, 1) := by decide +kernel
theorem dX4_value_2 : decode cX4_value 2 = .ok (.if_icmp .ge 16, 3) := by decide +kernel
theorem dX4_value_5 : decode cX4_value 5 = .ok (.aload_n 0, 1) := by decide +kernel
theorem dX4_value_6 : decode cX4_value 6 = .ok (.getfield 22, 3) := by decide +kernel
theorem dX4_value_9 : decode cX4_value 9 = .ok (.iconst 3, 1) := by decide +kernel
theorem dX4_value_10 : decode cX4_value 10 = .ok (.iload_n 1, 1) := by decide +kernel
theorem dX4_value_11 : decode cX4_value 11 = .ok (.imul, 1) := by decide +kernel
theorem dX4_value_12 : decode cX4_value 12 = .ok (.iload_n 2, 1) := by decide +kernel
theorem dX4_value_13 : decode cX4_value 13 = .ok (.iadd, 1) := by decide +kernel
theorem dX4_value_14 : decode cX4_value 14 = .ok (.iaload, 1) := by decide +kernel
theorem dX4_value_15 : decode cX4_value 15 = .ok (.goto 11, 3) := by decide +kernel
theorem dX4_value_18 : decode cX4_value 18 = .ok (.aload_n 0, 1) := by decide +kernel
theorem dX4_value_19 : decode cX4_value 19 = .ok (.iload_n 1, 1) := by decide +kernel
theorem dX4_value_20 : decode cX4_value 20 = .ok (.iload_n 2, 1) := by decide +kernel
theorem dX4_value_21 : decode cX4_value 21 = .ok (.iconst 3, 1) := by decide +kernel
theorem dX4_value_22 : decode cX4_value 22 = .ok (.isub, 1) := by decide +kernel
theorem dX4_value_23 : decode cX4_value 23 = .ok (.invokevirtual 106, 3) := by decide +kernel
theorem dX4_value_26 : decode cX4_value 26 = .ok (.ireturn, 1) := by decide +kernel
theorem dX4_triple_0 : decode cX4_triple 0 = .ok (.aload_n 0, 1) := by decide +kernel
theorem dX4_triple_1 : decode cX4_triple 1 = .ok (.iload_n 1, 1) := by decide +kernel
theorem dX4_triple_2 : decode cX4_triple 2 = .ok (.invokevirtual 176, 3) := by decide +kernel
theorem dX4_triple_5 : decode cX4_triple 5 = .ok (.ifCond .ne 9, 3) := by decide +kernel
theorem dX4_triple_8 : decode cX4_triple 8 = .ok (.aload_n 0, 1) := by decide +kernel
theorem dX4_triple_9 : decode cX4_triple 9 = .ok (.iconst 1, 1) := by decide +kernel
theorem dX4_triple_10 : decode cX4_triple 10 = .ok (.invokevirtual 113, 3) := by decide +kernel
theorem dX4_triple_13 : decode cX4_triple 13 = .ok (.ireturn, 1) := by decide +kernel
theorem dX4_triple_14 : decode cX4_triple 14 = .ok (.iload_n 2, 1) := by decide +kernel
theorem dX4_triple_15 : decode cX4_triple 15 = .ok (.iconst 0, 1) := by decide +kernel
theorem dX4_triple_16 : decode cX4_triple 16 = .ok (.bipush 6, 2) := by decide +kernel
theorem dX4_triple_18 : decode cX4_triple 18 = .ok (.invokestatic 91, 3) := by decide +kernel
theorem dX4_triple_21 : decode cX4_triple 21 = .ok (.ifCond .eq 16, 3) := by decide +kernel
theorem dX4_triple_24 : decode cX4_triple 24 = .ok (.aload_n 0, 1) := by decide +kernel
theorem dX4_triple_25 : decode cX4_triple 25 = .ok (.aload_n 0, 1) := by decide +kernel
theorem dX4_triple_26 : decode cX4_triple 26 = .ok (.iload_n 1, 1) := by decide +kernel
theorem dX4_triple_27 : decode cX4_triple 27 = .ok (.iload_n 2, 1) := by decide +kernel
theorem dX4_triple_28 : decode cX4_triple 28 = .ok (.invokevirtual 179, 3) := by decide +kernel
theorem dX4_triple_31 : decode cX4_triple 31 = .ok (.invokevirtual 67, 3) := by decide +kernel
theorem dX4_triple_34 : decode cX4_triple 34 = .ok (.goto 8, 3) := by decide +kernel
theorem dX4_triple_37 : decode cX4_triple 37 = .ok (.aload_n 0, 1) := by decide +kernel
theorem dX4_triple_38 : decode cX4_triple 38 = .ok (.iconst 2, 1) := by decide +kernel
theorem dX4_triple_39 : decode cX4_triple 39 = .ok (.invokevirtual 113, 3) := by decide +kernel
theorem dX4_triple_42 : decode cX4_triple 42 = .ok (.ireturn, 1) := by decide +kernel
theorem dX4_whyRelation_0 : decode cX4_whyRelation 0 = .ok (.aload_n 0, 1) := by decide +kernel
theorem dX4_whyRelation_1 : decode cX4_whyRelation 1 = .ok (.iload_n 1, 1) := by decide +kernel
theorem dX4_whyRelation_2 : decode cX4_whyRelation 2 = .ok (.invokevirtual 152, 3) := by decide +kernel
theorem dX4_whyRelation_5 : decode cX4_whyRelation 5 = .ok (.lconst 0, 1) := by decide +kernel
theorem dX4_whyRelation_6 : decode cX4_whyRelation 6 = .ok (.lstore_n 2, 1) := by decide +kernel
theorem dX4_whyRelation_7 : decode cX4_whyRelation 7 = .ok (.iconst 0, 1) := by decide +kernel
theorem dX4_whyRelation_8 : decode cX4_whyRelation 8 = .ok (.istore 4, 2) := by decide +kernel
theorem dX4_whyRelation_10 : decode cX4_whyRelation 10 = .ok (.iload 4, 2) := by decide +kernel
theorem dX4_whyRelation_12 : decode cX4_whyRelation 12 = .ok (.bipush 6, 2) := by decide +kernel
theorem dX4_whyRelation_14 : decode cX4_whyRelation 14 = .ok (.if_icmp .ge 24, 3) := by decide +kernel
theorem dX4_whyRelation_17 : decode cX4_whyRelation 17 = .ok (.lload_n 2, 1) := by decide +kernel
theorem dX4_whyRelation_18 : decode cX4_whyRelation 18 = .ok (.aload_n 0, 1) := by decide +kernel
theorem dX4_whyRelation_19 : decode cX4_whyRelation 19 = .ok (.getfield 40, 3) := by decide +kernel
theorem dX4_whyRelation_22 : decode cX4_whyRelation 22 = .ok (.aload_n 0, 1) := by decide +kernel
theorem dX4_whyRelation_23 : decode cX4_whyRelation 23 = .ok (.getfield 31, 3) := by decide +kernel
theorem dX4_whyRelation_26 : decode cX4_whyRelation 26 = .ok (.iload 4, 2) := by decide +kernel
theorem dX4_whyRelation_28 : decode cX4_whyRelation 28 = .ok (.iaload, 1) := by decide +kernel
theorem dX4_whyRelation_29 : decode cX4_whyRelation 29 = .ok (.laload, 1) := by decide +kernel
theorem dX4_whyRelation_30 : decode cX4_whyRelation 30 = .ok (.lor, 1) := by decide +kernel
theorem dX4_whyRelation_31 : decode cX4_whyRelation 31 = .ok (.lstore_n 2, 1) := by decide +kernel
theorem dX4_whyRelation_32 : decode cX4_whyRelation 32 = .ok (.iinc 4 1, 3) := by decide +kernel
theorem dX4_whyRelation_35 : decode cX4_whyRelation 35 = .ok (.goto (-25), 3) := by decide +kernel
theorem dX4_whyRelation_38 : decode cX4_whyRelation 38 = .ok (.lload_n 2, 1) := by decide +kernel
theorem dX4_whyRelation_39 : decode cX4_whyRelation 39 = .ok (.lreturn, 1) := by decide +kernel
theorem dX4_laysReasons_0 : decode cX4_laysReasons 0 = .ok (.iconst 0, 1) := by decide +kernel
theorem dX4_laysReasons_1 : decode cX4_laysReasons 1 = .ok (.istore_n 1, 1) := by decide +kernel
theorem dX4_laysReasons_2 : decode cX4_laysReasons 2 = .ok (.iload_n 1, 1) := by decide +kernel
theorem dX4_laysReasons_3 : decode cX4_laysReasons 3 = .ok (.aload_n 0, 1) := by decide +kernel
theorem dX4_laysReasons_4 : decode cX4_laysReasons 4 = .ok (.getfield 71, 3) := by decide +kernel
theorem dX4_laysReasons_7 : decode cX4_laysReasons 7 = .ok (.if_icmp .ge 32, 3) := by decide +kernel
theorem dX4_laysReasons_10 : decode cX4_laysReasons 10 = .ok (.aload_n 0, 1) := by decide +kernel
theorem dX4_laysReasons_11 : decode cX4_laysReasons 11 = .ok (.getfield 40, 3) := by decide +kernel
theorem dX4_laysReasons_14 : decode cX4_laysReasons 14 = .ok (.iload_n 1, 1) := by decide +kernel
theorem dX4_laysReasons_15 : decode cX4_laysReasons 15 = .ok (.aload_n 0, 1) := by decide +kernel
theorem dX4_laysReasons_16 : decode cX4_laysReasons 16 = .ok (.iload_n 1, 1) := by decide +kernel
theorem dX4_laysReasons_17 : decode cX4_laysReasons 17 = .ok (.iconst 1, 1) := by decide +kernel
theorem dX4_laysReasons_18 : decode cX4_laysReasons 18 = .ok (.invokevirtual 106, 3) := by decide +kernel
theorem dX4_laysReasons_21 : decode cX4_laysReasons 21 = .ok (.iconst 1, 1) := by decide +kernel
theorem dX4_laysReasons_22 : decode cX4_laysReasons 22 = .ok (.if_icmp .ne 9, 3) := by decide +kernel
theorem dX4_laysReasons_25 : decode cX4_laysReasons 25 = .ok (.lconst 1, 1) := by decide +kernel
theorem dX4_laysReasons_26 : decode cX4_laysReasons 26 = .ok (.iload_n 1, 1) := by decide +kernel
theorem dX4_laysReasons_27 : decode cX4_laysReasons 27 = .ok (.lshl, 1) := by decide +kernel
theorem dX4_laysReasons_28 : decode cX4_laysReasons 28 = .ok (.goto 4, 3) := by decide +kernel
theorem dX4_laysReasons_31 : decode cX4_laysReasons 31 = .ok (.lconst 0, 1) := by decide +kernel
theorem dX4_laysReasons_32 : decode cX4_laysReasons 32 = .ok (.lastore, 1) := by decide +kernel
theorem dX4_laysReasons_33 : decode cX4_laysReasons 33 = .ok (.iinc 1 1, 3) := by decide +kernel
theorem dX4_laysReasons_36 : decode cX4_laysReasons 36 = .ok (.goto (-34), 3) := by decide +kernel
theorem dX4_laysReasons_39 : decode cX4_laysReasons 39 = .ok (.aload_n 0, 1) := by decide +kernel
theorem dX4_laysReasons_40 : decode cX4_laysReasons 40 = .ok (.iconst 2, 1) := by decide +kernel
theorem dX4_laysReasons_41 : decode cX4_laysReasons 41 = .ok (.invokevirtual 161, 3) := by decide +kernel
theorem dX4_laysReasons_44 : decode cX4_laysReasons 44 = .ok (.istore_n 1, 1) := by decide +kernel
theorem dX4_laysReasons_45 : decode cX4_laysReasons 45 = .ok (.iconst 1, 1) := by decide +kernel
theorem dX4_laysReasons_46 : decode cX4_laysReasons 46 = .ok (.istore_n 2, 1) := by decide +kernel
theorem dX4_laysReasons_47 : decode cX4_laysReasons 47 = .ok (.iload_n 2, 1) := by decide +kernel
theorem dX4_laysReasons_48 : decode cX4_laysReasons 48 = .ok (.iload_n 1, 1) := by decide +kernel
theorem dX4_laysReasons_49 : decode cX4_laysReasons 49 = .ok (.if_icmp .gt 51, 3) := by decide +kernel
theorem dX4_laysReasons_52 : decode cX4_laysReasons 52 = .ok (.iconst 0, 1) := by decide +kernel
theorem dX4_laysReasons_53 : decode cX4_laysReasons 53 = .ok (.istore_n 3, 1) := by decide +kernel
theorem dX4_laysReasons_54 : decode cX4_laysReasons 54 = .ok (.iload_n 3, 1) := by decide +kernel
theorem dX4_laysReasons_55 : decode cX4_laysReasons 55 = .ok (.aload_n 0, 1) := by decide +kernel
theorem dX4_laysReasons_56 : decode cX4_laysReasons 56 = .ok (.getfield 71, 3) := by decide +kernel
theorem dX4_laysReasons_59 : decode cX4_laysReasons 59 = .ok (.if_icmp .ge 35, 3) := by decide +kernel
theorem dX4_laysReasons_62 : decode cX4_laysReasons 62 = .ok (.aload_n 0, 1) := by decide +kernel
theorem dX4_laysReasons_63 : decode cX4_laysReasons 63 = .ok (.iload_n 3, 1) := by decide +kernel
theorem dX4_laysReasons_64 : decode cX4_laysReasons 64 = .ok (.iconst 3, 1) := by decide +kernel
theorem dX4_laysReasons_65 : decode cX4_laysReasons 65 = .ok (.invokevirtual 106, 3) := by decide +kernel
theorem dX4_laysReasons_68 : decode cX4_laysReasons 68 = .ok (.iload_n 2, 1) := by decide +kernel
theorem dX4_laysReasons_69 : decode cX4_laysReasons 69 = .ok (.if_icmp .ne 19, 3) := by decide +kernel
theorem dX4_laysReasons_72 : decode cX4_laysReasons 72 = .ok (.aload_n 0, 1) := by decide +kernel
theorem dX4_laysReasons_73 : decode cX4_laysReasons 73 = .ok (.getfield 40, 3) := by decide +kernel
theorem dX4_laysReasons_76 : decode cX4_laysReasons 76 = .ok (.iload_n 3, 1) := by decide +kernel
theorem dX4_laysReasons_77 : decode cX4_laysReasons 77 = .ok (.aload_n 0, 1) := by decide +kernel
theorem dX4_laysReasons_78 : decode cX4_laysReasons 78 = .ok (.aload_n 0, 1) := by decide +kernel
theorem dX4_laysReasons_79 : decode cX4_laysReasons 79 = .ok (.iload_n 3, 1) := by decide +kernel
theorem dX4_laysReasons_80 : decode cX4_laysReasons 80 = .ok (.iconst 2, 1) := by decide +kernel
theorem dX4_laysReasons_81 : decode cX4_laysReasons 81 = .ok (.invokevirtual 106, 3) := by decide +kernel
theorem dX4_laysReasons_84 : decode cX4_laysReasons 84 = .ok (.invokevirtual 182, 3) := by decide +kernel
theorem dX4_laysReasons_87 : decode cX4_laysReasons 87 = .ok (.lastore, 1) := by decide +kernel
theorem dX4_laysReasons_88 : decode cX4_laysReasons 88 = .ok (.iinc 3 1, 3) := by decide +kernel
theorem dX4_laysReasons_91 : decode cX4_laysReasons 91 = .ok (.goto (-37), 3) := by decide +kernel
theorem dX4_laysReasons_94 : decode cX4_laysReasons 94 = .ok (.iinc 2 1, 3) := by decide +kernel
theorem dX4_laysReasons_97 : decode cX4_laysReasons 97 = .ok (.goto (-50), 3) := by decide +kernel
theorem dX4_laysReasons_100 : decode cX4_laysReasons 100 = .ok (.return_, 1) := by decide +kernel
theorem dX4_reasons_0 : decode cX4_reasons 0 = .ok (.aload_n 0, 1) := by decide +kernel
theorem dX4_reasons_1 : decode cX4_reasons 1 = .ok (.iload_n 1, 1) := by decide +kernel
theorem dX4_reasons_2 : decode cX4_reasons 2 = .ok (.invokevirtual 176, 3) := by decide +kernel
theorem dX4_reasons_5 : decode cX4_reasons 5 = .ok (.ifCond .ne 10, 3) := by decide +kernel
theorem dX4_reasons_8 : decode cX4_reasons 8 = .ok (.aload_n 0, 1) := by decide +kernel
theorem dX4_reasons_9 : decode cX4_reasons 9 = .ok (.iconst 1, 1) := by decide +kernel
theorem dX4_reasons_10 : decode cX4_reasons 10 = .ok (.invokevirtual 113, 3) := by decide +kernel
theorem dX4_reasons_13 : decode cX4_reasons 13 = .ok (.i2l, 1) := by decide +kernel
theorem dX4_reasons_14 : decode cX4_reasons 14 = .ok (.lreturn, 1) := by decide +kernel
theorem dX4_reasons_15 : decode cX4_reasons 15 = .ok (.aload_n 0, 1) := by decide +kernel
theorem dX4_reasons_16 : decode cX4_reasons 16 = .ok (.iconst 0, 1) := by decide +kernel
theorem dX4_reasons_17 : decode cX4_reasons 17 = .ok (.putfield 60, 3) := by decide +kernel
theorem dX4_reasons_20 : decode cX4_reasons 20 = .ok (.aload_n 0, 1) := by decide +kernel
theorem dX4_reasons_21 : decode cX4_reasons 21 = .ok (.invokevirtual 186, 3) := by decide +kernel
theorem dX4_reasons_24 : decode cX4_reasons 24 = .ok (.aload_n 0, 1) := by decide +kernel
theorem dX4_reasons_25 : decode cX4_reasons 25 = .ok (.getfield 40, 3) := by decide +kernel
theorem dX4_reasons_28 : decode cX4_reasons 28 = .ok (.iload_n 1, 1) := by decide +kernel
theorem dX4_reasons_29 : decode cX4_reasons 29 = .ok (.laload, 1) := by decide +kernel
theorem dX4_reasons_30 : decode cX4_reasons 30 = .ok (.lreturn, 1) := by decide +kernel
theorem dX4_state_0 : decode cX4_state 0 = .ok (.aload_n 0, 1) := by decide +kernel
theorem dX4_state_1 : decode cX4_state 1 = .ok (.iload_n 1, 1) := by decide +kernel
theorem dX4_state_2 : decode cX4_state 2 = .ok (.invokevirtual 152, 3) := by decide +kernel
theorem dX4_state_5 : decode cX4_state 5 = .ok (.aload_n 0, 1) := by decide +kernel
theorem dX4_state_6 : decode cX4_state 6 = .ok (.invokevirtual 155, 3) := by decide +kernel
theorem dX4_state_9 : decode cX4_state 9 = .ok (.ifCond .le 7, 3) := by decide +kernel
theorem dX4_state_12 : decode cX4_state 12 = .ok (.iconst 0, 1) := by decide +kernel
theorem dX4_state_13 : decode cX4_state 13 = .ok (.goto 16, 3) := by decide +kernel
theorem dX4_state_16 : decode cX4_state 16 = .ok (.aload_n 0, 1) := by decide +kernel
theorem dX4_state_17 : decode cX4_state 17 = .ok (.iconst 0, 1) := by decide +kernel
theorem dX4_state_18 : decode cX4_state 18 = .ok (.invokevirtual 158, 3) := by decide +kernel
theorem dX4_state_21 : decode cX4_state 21 = .ok (.ifCond .eq 7, 3) := by decide +kernel
theorem dX4_state_24 : decode cX4_state 24 = .ok (.iconst 1, 1) := by decide +kernel
theorem dX4_state_25 : decode cX4_state 25 = .ok (.goto 4, 3) := by decide +kernel
theorem dX4_state_28 : decode cX4_state 28 = .ok (.iconst (-1), 1) := by decide +kernel
theorem dX4_state_29 : decode cX4_state 29 = .ok (.ireturn, 1) := by decide +kernel
theorem dX4_stated_0 : decode cX4_stated 0 = .ok (.iconst 0, 1) := by decide +kernel
theorem dX4_stated_1 : decode cX4_stated 1 = .ok (.istore_n 2, 1) := by decide +kernel
theorem dX4_stated_2 : decode cX4_stated 2 = .ok (.iconst 0, 1) := by decide +kernel
theorem dX4_stated_3 : decode cX4_stated 3 = .ok (.istore_n 3, 1) := by decide +kernel
theorem dX4_stated_4 : decode cX4_stated 4 = .ok (.iload_n 3, 1) := by decide +kernel
theorem dX4_stated_5 : decode cX4_stated 5 = .ok (.aload_n 0, 1) := by decide +kernel
theorem dX4_stated_6 : decode cX4_stated 6 = .ok (.getfield 74, 3) := by decide +kernel
theorem dX4_stated_9 : decode cX4_stated 9 = .ok (.if_icmp .ge 40, 3) := by decide +kernel
theorem dX4_stated_12 : decode cX4_stated 12 = .ok (.aload_n 0, 1) := by decide +kernel
theorem dX4_stated_13 : decode cX4_stated 13 = .ok (.iload_n 3, 1) := by decide +kernel
theorem dX4_stated_14 : decode cX4_stated 14 = .ok (.invokevirtual 189, 3) := by decide +kernel
theorem dX4_stated_17 : decode cX4_stated 17 = .ok (.istore 4, 2) := by decide +kernel
theorem dX4_stated_19 : decode cX4_stated 19 = .ok (.iload_n 2, 1) := by decide +kernel
theorem dX4_stated_20 : decode cX4_stated 20 = .ok (.iload 4, 2) := by decide +kernel
theorem dX4_stated_22 : decode cX4_stated 22 = .ok (.iconst (-1), 1) := by decide +kernel
theorem dX4_stated_23 : decode cX4_stated 23 = .ok (.if_icmp .eq 13, 3) := by decide +kernel
theorem dX4_stated_26 : decode cX4_stated 26 = .ok (.iload 4, 2) := by decide +kernel
theorem dX4_stated_28 : decode cX4_stated 28 = .ok (.iconst 1, 1) := by decide +kernel
theorem dX4_stated_29 : decode cX4_stated 29 = .ok (.if_icmp .ne 11, 3) := by decide +kernel
theorem dX4_stated_32 : decode cX4_stated 32 = .ok (.iload_n 1, 1) := by decide +kernel
theorem dX4_stated_33 : decode cX4_stated 33 = .ok (.ifCond .ne 7, 3) := by decide +kernel
theorem dX4_stated_36 : decode cX4_stated 36 = .ok (.iconst 1, 1) := by decide +kernel
theorem dX4_stated_37 : decode cX4_stated 37 = .ok (.goto 4, 3) := by decide +kernel
theorem dX4_stated_40 : decode cX4_stated 40 = .ok (.iconst 0, 1) := by decide +kernel
theorem dX4_stated_41 : decode cX4_stated 41 = .ok (.iadd, 1) := by decide +kernel
theorem dX4_stated_42 : decode cX4_stated 42 = .ok (.istore_n 2, 1) := by decide +kernel
theorem dX4_stated_43 : decode cX4_stated 43 = .ok (.iinc 3 1, 3) := by decide +kernel
theorem dX4_stated_46 : decode cX4_stated 46 = .ok (.goto (-42), 3) := by decide +kernel
theorem dX4_stated_49 : decode cX4_stated 49 = .ok (.iload_n 2, 1) := by decide +kernel
theorem dX4_stated_50 : decode cX4_stated 50 = .ok (.ireturn, 1) := by decide +kernel
theorem dX4_counted_0 : decode cX4_counted 0 = .ok (.iload_n 1, 1) := by decide +kernel
theorem dX4_counted_1 : decode cX4_counted 1 = .ok (.tableswitch 105 0 8 #[51, 58, 63, 69, 75, 81, 86, 92, 98], 51) := by decide +kernel
theorem dX4_counted_52 : decode cX4_counted 52 = .ok (.aload_n 0, 1) := by decide +kernel
theorem dX4_counted_53 : decode cX4_counted 53 = .ok (.getfield 7, 3) := by decide +kernel
theorem dX4_counted_56 : decode cX4_counted 56 = .ok (.iconst 0, 1) := by decide +kernel
theorem dX4_counted_57 : decode cX4_counted 57 = .ok (.iaload, 1) := by decide +kernel
theorem dX4_counted_58 : decode cX4_counted 58 = .ok (.ireturn, 1) := by decide +kernel
theorem dX4_counted_59 : decode cX4_counted 59 = .ok (.aload_n 0, 1) := by decide +kernel
theorem dX4_counted_60 : decode cX4_counted 60 = .ok (.getfield 71, 3) := by decide +kernel
theorem dX4_counted_63 : decode cX4_counted 63 = .ok (.ireturn, 1) := by decide +kernel
theorem dX4_counted_64 : decode cX4_counted 64 = .ok (.aload_n 0, 1) := by decide +kernel
theorem dX4_counted_65 : decode cX4_counted 65 = .ok (.iconst 1, 1) := by decide +kernel
theorem dX4_counted_66 : decode cX4_counted 66 = .ok (.invokevirtual 161, 3) := by decide +kernel
theorem dX4_counted_69 : decode cX4_counted 69 = .ok (.ireturn, 1) := by decide +kernel
theorem dX4_counted_70 : decode cX4_counted 70 = .ok (.aload_n 0, 1) := by decide +kernel
theorem dX4_counted_71 : decode cX4_counted 71 = .ok (.iconst 2, 1) := by decide +kernel
theorem dX4_counted_72 : decode cX4_counted 72 = .ok (.invokevirtual 161, 3) := by decide +kernel
theorem dX4_counted_75 : decode cX4_counted 75 = .ok (.ireturn, 1) := by decide +kernel
theorem dX4_counted_76 : decode cX4_counted 76 = .ok (.aload_n 0, 1) := by decide +kernel
theorem dX4_counted_77 : decode cX4_counted 77 = .ok (.iconst 0, 1) := by decide +kernel
theorem dX4_counted_78 : decode cX4_counted 78 = .ok (.invokevirtual 161, 3) := by decide +kernel
theorem dX4_counted_81 : decode cX4_counted 81 = .ok (.ireturn, 1) := by decide +kernel
theorem dX4_counted_82 : decode cX4_counted 82 = .ok (.aload_n 0, 1) := by decide +kernel
theorem dX4_counted_83 : decode cX4_counted 83 = .ok (.getfield 74, 3) := by decide +kernel
theorem dX4_counted_86 : decode cX4_counted 86 = .ok (.ireturn, 1) := by decide +kernel
theorem dX4_counted_87 : decode cX4_counted 87 = .ok (.aload_n 0, 1) := by decide +kernel
theorem dX4_counted_88 : decode cX4_counted 88 = .ok (.iconst 0, 1) := by decide +kernel
theorem dX4_counted_89 : decode cX4_counted 89 = .ok (.invokevirtual 192, 3) := by decide +kernel
theorem dX4_counted_92 : decode cX4_counted 92 = .ok (.ireturn, 1) := by decide +kernel
theorem dX4_counted_93 : decode cX4_counted 93 = .ok (.aload_n 0, 1) := by decide +kernel
theorem dX4_counted_94 : decode cX4_counted 94 = .ok (.iconst 1, 1) := by decide +kernel
theorem dX4_counted_95 : decode cX4_counted 95 = .ok (.invokevirtual 192, 3) := by decide +kernel
theorem dX4_counted_98 : decode cX4_counted 98 = .ok (.ireturn, 1) := by decide +kernel
theorem dX4_counted_99 : decode cX4_counted 99 = .ok (.aload_n 0, 1) := by decide +kernel
theorem dX4_counted_100 : decode cX4_counted 100 = .ok (.getfield 7, 3) := by decide +kernel
theorem dX4_counted_103 : decode cX4_counted 103 = .ok (.iconst 2, 1) := by decide +kernel
theorem dX4_counted_104 : decode cX4_counted 104 = .ok (.iaload, 1) := by decide +kernel
theorem dX4_counted_105 : decode cX4_counted 105 = .ok (.ireturn, 1) := by decide +kernel
theorem dX4_counted_106 : decode cX4_counted 106 = .ok (.aload_n 0, 1) := by decide +kernel
theorem dX4_counted_107 : decode cX4_counted 107 = .ok (.getfield 7, 3) := by decide +kernel
theorem dX4_counted_110 : decode cX4_counted 110 = .ok (.iconst 1, 1) := by decide +kernel
theorem dX4_counted_111 : decode cX4_counted 111 = .ok (.iaload, 1) := by decide +kernel
theorem dX4_counted_112 : decode cX4_counted 112 = .ok (.ireturn, 1) := by decide +kernel
theorem dX4_count_0 : decode cX4_count 0 = .ok (.iload_n 1, 1) := by decide +kernel
theorem dX4_count_1 : decode cX4_count 1 = .ok (.iconst 0, 1) := by decide +kernel
theorem dX4_count_2 : decode cX4_count 2 = .ok (.bipush 9, 2) := by decide +kernel
theorem dX4_count_4 : decode cX4_count 4 = .ok (.invokestatic 91, 3) := by decide +kernel
theorem dX4_count_7 : decode cX4_count 7 = .ok (.ifCond .eq 15, 3) := by decide +kernel
theorem dX4_count_10 : decode cX4_count 10 = .ok (.aload_n 0, 1) := by decide +kernel
theorem dX4_count_11 : decode cX4_count 11 = .ok (.aload_n 0, 1) := by decide +kernel
theorem dX4_count_12 : decode cX4_count 12 = .ok (.iload_n 1, 1) := by decide +kernel
theorem dX4_count_13 : decode cX4_count 13 = .ok (.invokevirtual 196, 3) := by decide +kernel
theorem dX4_count_16 : decode cX4_count 16 = .ok (.invokevirtual 67, 3) := by decide +kernel
theorem dX4_count_19 : decode cX4_count 19 = .ok (.goto 8, 3) := by decide +kernel
theorem dX4_count_22 : decode cX4_count 22 = .ok (.aload_n 0, 1) := by decide +kernel
theorem dX4_count_23 : decode cX4_count 23 = .ok (.iconst 1, 1) := by decide +kernel
theorem dX4_count_24 : decode cX4_count 24 = .ok (.invokevirtual 113, 3) := by decide +kernel
theorem dX4_count_27 : decode cX4_count 27 = .ok (.ireturn, 1) := by decide +kernel
theorem dX4_isRelation_0 : decode cX4_isRelation 0 = .ok (.iload_n 1, 1) := by decide +kernel
theorem dX4_isRelation_1 : decode cX4_isRelation 1 = .ok (.iconst 0, 1) := by decide +kernel
theorem dX4_isRelation_2 : decode cX4_isRelation 2 = .ok (.aload_n 0, 1) := by decide +kernel
theorem dX4_isRelation_3 : decode cX4_isRelation 3 = .ok (.getfield 74, 3) := by decide +kernel
theorem dX4_isRelation_6 : decode cX4_isRelation 6 = .ok (.iconst 1, 1) := by decide +kernel
theorem dX4_isRelation_7 : decode cX4_isRelation 7 = .ok (.isub, 1) := by decide +kernel
theorem dX4_isRelation_8 : decode cX4_isRelation 8 = .ok (.invokestatic 91, 3) := by decide +kernel
theorem dX4_isRelation_11 : decode cX4_isRelation 11 = .ok (.ireturn, 1) := by decide +kernel
theorem dX4_relationValue_0 : decode cX4_relationValue 0 = .ok (.aload_n 0, 1) := by decide +kernel
theorem dX4_relationValue_1 : decode cX4_relationValue 1 = .ok (.iload_n 1, 1) := by decide +kernel
theorem dX4_relationValue_2 : decode cX4_relationValue 2 = .ok (.invokevirtual 152, 3) := by decide +kernel
theorem dX4_relationValue_5 : decode cX4_relationValue 5 = .ok (.iload_n 2, 1) := by decide +kernel
theorem dX4_relationValue_6 : decode cX4_relationValue 6 = .ok (.iconst 5, 1) := by decide +kernel
theorem dX4_relationValue_7 : decode cX4_relationValue 7 = .ok (.if_icmp .ge 16, 3) := by decide +kernel
theorem dX4_relationValue_10 : decode cX4_relationValue 10 = .ok (.aload_n 0, 1) := by decide +kernel
theorem dX4_relationValue_11 : decode cX4_relationValue 11 = .ok (.getfield 28, 3) := by decide +kernel
theorem dX4_relationValue_14 : decode cX4_relationValue 14 = .ok (.iconst 5, 1) := by decide +kernel
theorem dX4_relationValue_15 : decode cX4_relationValue 15 = .ok (.iload_n 1, 1) := by decide +kernel
theorem dX4_relationValue_16 : decode cX4_relationValue 16 = .ok (.imul, 1) := by decide +kernel
theorem dX4_relationValue_17 : decode cX4_relationValue 17 = .ok (.iload_n 2, 1) := by decide +kernel
theorem dX4_relationValue_18 : decode cX4_relationValue 18 = .ok (.iadd, 1) := by decide +kernel
theorem dX4_relationValue_19 : decode cX4_relationValue 19 = .ok (.iaload, 1) := by decide +kernel
theorem dX4_relationValue_20 : decode cX4_relationValue 20 = .ok (.goto 20, 3) := by decide +kernel
theorem dX4_relationValue_23 : decode cX4_relationValue 23 = .ok (.iload_n 2, 1) := by decide +kernel
theorem dX4_relationValue_24 : decode cX4_relationValue 24 = .ok (.iconst 5, 1) := by decide +kernel
theorem dX4_relationValue_25 : decode cX4_relationValue 25 = .ok (.if_icmp .ne 10, 3) := by decide +kernel
theorem dX4_relationValue_28 : decode cX4_relationValue 28 = .ok (.aload_n 0, 1) := by decide +kernel
theorem dX4_relationValue_29 : decode cX4_relationValue 29 = .ok (.invokevirtual 155, 3) := by decide +kernel
theorem dX4_relationValue_32 : decode cX4_relationValue 32 = .ok (.goto 8, 3) := by decide +kernel
theorem dX4_relationValue_35 : decode cX4_relationValue 35 = .ok (.aload_n 0, 1) := by decide +kernel
theorem dX4_relationValue_36 : decode cX4_relationValue 36 = .ok (.iload_n 1, 1) := by decide +kernel
theorem dX4_relationValue_37 : decode cX4_relationValue 37 = .ok (.invokevirtual 189, 3) := by decide +kernel
theorem dX4_relationValue_40 : decode cX4_relationValue 40 = .ok (.ireturn, 1) := by decide +kernel
theorem dX4_relation_0 : decode cX4_relation 0 = .ok (.aload_n 0, 1) := by decide +kernel
theorem dX4_relation_1 : decode cX4_relation 1 = .ok (.iload_n 1, 1) := by decide +kernel
theorem dX4_relation_2 : decode cX4_relation 2 = .ok (.invokevirtual 199, 3) := by decide +kernel
theorem dX4_relation_5 : decode cX4_relation 5 = .ok (.ifCond .ne 9, 3) := by decide +kernel
theorem dX4_relation_8 : decode cX4_relation 8 = .ok (.aload_n 0, 1) := by decide +kernel
theorem dX4_relation_9 : decode cX4_relation 9 = .ok (.iconst 1, 1) := by decide +kernel
theorem dX4_relation_10 : decode cX4_relation 10 = .ok (.invokevirtual 113, 3) := by decide +kernel
theorem dX4_relation_13 : decode cX4_relation 13 = .ok (.ireturn, 1) := by decide +kernel
theorem dX4_relation_14 : decode cX4_relation 14 = .ok (.iload_n 2, 1) := by decide +kernel
theorem dX4_relation_15 : decode cX4_relation 15 = .ok (.iconst 0, 1) := by decide +kernel
theorem dX4_relation_16 : decode cX4_relation 16 = .ok (.bipush 6, 2) := by decide +kernel
theorem dX4_relation_18 : decode cX4_relation 18 = .ok (.invokestatic 91, 3) := by decide +kernel
theorem dX4_relation_21 : decode cX4_relation 21 = .ok (.ifCond .eq 16, 3) := by decide +kernel
theorem dX4_relation_24 : decode cX4_relation 24 = .ok (.aload_n 0, 1) := by decide +kernel
theorem dX4_relation_25 : decode cX4_relation 25 = .ok (.aload_n 0, 1) := by decide +kernel
theorem dX4_relation_26 : decode cX4_relation 26 = .ok (.iload_n 1, 1) := by decide +kernel
theorem dX4_relation_27 : decode cX4_relation 27 = .ok (.iload_n 2, 1) := by decide +kernel
theorem dX4_relation_28 : decode cX4_relation 28 = .ok (.invokevirtual 202, 3) := by decide +kernel
theorem dX4_relation_31 : decode cX4_relation 31 = .ok (.invokevirtual 67, 3) := by decide +kernel
theorem dX4_relation_34 : decode cX4_relation 34 = .ok (.goto 8, 3) := by decide +kernel
theorem dX4_relation_37 : decode cX4_relation 37 = .ok (.aload_n 0, 1) := by decide +kernel
theorem dX4_relation_38 : decode cX4_relation 38 = .ok (.iconst 2, 1) := by decide +kernel
theorem dX4_relation_39 : decode cX4_relation 39 = .ok (.invokevirtual 113, 3) := by decide +kernel
theorem dX4_relation_42 : decode cX4_relation 42 = .ok (.ireturn, 1) := by decide +kernel
theorem dX4_behind_0 : decode cX4_behind 0 = .ok (.aload_n 0, 1) := by decide +kernel
theorem dX4_behind_1 : decode cX4_behind 1 = .ok (.iload_n 1, 1) := by decide +kernel
theorem dX4_behind_2 : decode cX4_behind 2 = .ok (.invokevirtual 199, 3) := by decide +kernel
theorem dX4_behind_5 : decode cX4_behind 5 = .ok (.ifCond .ne 10, 3) := by decide +kernel
theorem dX4_behind_8 : decode cX4_behind 8 = .ok (.aload_n 0, 1) := by decide +kernel
theorem dX4_behind_9 : decode cX4_behind 9 = .ok (.iconst 1, 1) := by decide +kernel
theorem dX4_behind_10 : decode cX4_behind 10 = .ok (.invokevirtual 113, 3) := by decide +kernel
theorem dX4_behind_13 : decode cX4_behind 13 = .ok (.i2l, 1) := by decide +kernel
theorem dX4_behind_14 : decode cX4_behind 14 = .ok (.lreturn, 1) := by decide +kernel
theorem dX4_behind_15 : decode cX4_behind 15 = .ok (.aload_n 0, 1) := by decide +kernel
theorem dX4_behind_16 : decode cX4_behind 16 = .ok (.iconst 0, 1) := by decide +kernel
theorem dX4_behind_17 : decode cX4_behind 17 = .ok (.putfield 60, 3) := by decide +kernel
theorem dX4_behind_20 : decode cX4_behind 20 = .ok (.aload_n 0, 1) := by decide +kernel
theorem dX4_behind_21 : decode cX4_behind 21 = .ok (.invokevirtual 186, 3) := by decide +kernel
theorem dX4_behind_24 : decode cX4_behind 24 = .ok (.aload_n 0, 1) := by decide +kernel
theorem dX4_behind_25 : decode cX4_behind 25 = .ok (.iload_n 1, 1) := by decide +kernel
theorem dX4_behind_26 : decode cX4_behind 26 = .ok (.invokevirtual 182, 3) := by decide +kernel
theorem dX4_behind_29 : decode cX4_behind 29 = .ok (.lreturn, 1) := by decide +kernel
theorem dX4_completions_0 : decode cX4_completions 0 = .ok (.aload_n 0, 1) := by decide +kernel
theorem dX4_completions_1 : decode cX4_completions 1 = .ok (.iconst 0, 1) := by decide +kernel
theorem dX4_completions_2 : decode cX4_completions 2 = .ok (.invokevirtual 161, 3) := by decide +kernel
theorem dX4_completions_5 : decode cX4_completions 5 = .ok (.bipush 10, 2) := by decide +kernel
theorem dX4_completions_7 : decode cX4_completions 7 = .ok (.if_icmp .le 9, 3) := by decide +kernel
theorem dX4_completions_10 : decode cX4_completions 10 = .ok (.aload_n 0, 1) := by decide +kernel
theorem dX4_completions_11 : decode cX4_completions 11 = .ok (.iconst 1, 1) := by decide +kernel
theorem dX4_completions_12 : decode cX4_completions 12 = .ok (.invokevirtual 113, 3) := by decide +kernel
theorem dX4_completions_15 : decode cX4_completions 15 = .ok (.ireturn, 1) := by decide +kernel
theorem dX4_completions_16 : decode cX4_completions 16 = .ok (.iconst 0, 1) := by decide +kernel
theorem dX4_completions_17 : decode cX4_completions 17 = .ok (.istore_n 1, 1) := by decide +kernel
theorem dX4_completions_18 : decode cX4_completions 18 = .ok (.iconst 0, 1) := by decide +kernel
theorem dX4_completions_19 : decode cX4_completions 19 = .ok (.istore_n 2, 1) := by decide +kernel
theorem dX4_completions_20 : decode cX4_completions 20 = .ok (.iload_n 2, 1) := by decide +kernel
theorem dX4_completions_21 : decode cX4_completions 21 = .ok (.aload_n 0, 1) := by decide +kernel
theorem dX4_completions_22 : decode cX4_completions 22 = .ok (.getfield 71, 3) := by decide +kernel
theorem dX4_completions_25 : decode cX4_completions 25 = .ok (.if_icmp .ge 28, 3) := by decide +kernel
theorem dX4_completions_28 : decode cX4_completions 28 = .ok (.aload_n 0, 1) := by decide +kernel
theorem dX4_completions_29 : decode cX4_completions 29 = .ok (.iload_n 2, 1) := by decide +kernel
theorem dX4_completions_30 : decode cX4_completions 30 = .ok (.iconst 1, 1) := by decide +kernel
theorem dX4_completions_31 : decode cX4_completions 31 = .ok (.invokevirtual 106, 3) := by decide +kernel
theorem dX4_completions_34 : decode cX4_completions 34 = .ok (.ifCond .ne 13, 3) := by decide +kernel
theorem dX4_completions_37 : decode cX4_completions 37 = .ok (.aload_n 0, 1) := by decide +kernel
theorem dX4_completions_38 : decode cX4_completions 38 = .ok (.getfield 44, 3) := by decide +kernel
theorem dX4_completions_41 : decode cX4_completions 41 = .ok (.iload_n 1, 1) := by decide +kernel
theorem dX4_completions_42 : decode cX4_completions 42 = .ok (.iload_n 2, 1) := by decide +kernel
theorem dX4_completions_43 : decode cX4_completions 43 = .ok (.iastore, 1) := by decide +kernel
theorem dX4_completions_44 : decode cX4_completions 44 = .ok (.iinc 1 1, 3) := by decide +kernel
theorem dX4_completions_47 : decode cX4_completions 47 = .ok (.iinc 2 1, 3) := by decide +kernel
theorem dX4_completions_50 : decode cX4_completions 50 = .ok (.goto (-30), 3) := by decide +kernel
theorem dX4_completions_53 : decode cX4_completions 53 = .ok (.iconst 0, 1) := by decide +kernel
theorem dX4_completions_54 : decode cX4_completions 54 = .ok (.istore_n 2, 1) := by decide +kernel
theorem dX4_completions_55 : decode cX4_completions 55 = .ok (.iconst 0, 1) := by decide +kernel
theorem dX4_completions_56 : decode cX4_completions 56 = .ok (.istore_n 3, 1) := by decide +kernel
theorem dX4_completions_57 : decode cX4_completions 57 = .ok (.iload_n 3, 1) := by decide +kernel
theorem dX4_completions_58 : decode cX4_completions 58 = .ok (.iconst 1, 1) := by decide +kernel
theorem dX4_completions_59 : decode cX4_completions 59 = .ok (.iload_n 1, 1) := by decide +kernel
theorem dX4_completions_60 : decode cX4_completions 60 = .ok (.ishl, 1) := by decide +kernel
theorem dX4_completions_61 : decode cX4_completions 61 = .ok (.if_icmp .ge 67, 3) := by decide +kernel
theorem dX4_completions_64 : decode cX4_completions 64 = .ok (.iconst 0, 1) := by decide +kernel
theorem dX4_completions_65 : decode cX4_completions 65 = .ok (.istore 4, 2) := by decide +kernel
theorem dX4_completions_67 : decode cX4_completions 67 = .ok (.iload 4, 2) := by decide +kernel
theorem dX4_completions_69 : decode cX4_completions 69 = .ok (.iload_n 1, 1) := by decide +kernel
theorem dX4_completions_70 : decode cX4_completions 70 = .ok (.if_icmp .ge 36, 3) := by decide +kernel
theorem dX4_completions_73 : decode cX4_completions 73 = .ok (.aload_n 0, 1) := by decide +kernel
theorem dX4_completions_74 : decode cX4_completions 74 = .ok (.aload_n 0, 1) := by decide +kernel
theorem dX4_completions_75 : decode cX4_completions 75 = .ok (.getfield 44, 3) := by decide +kernel
theorem dX4_completions_78 : decode cX4_completions 78 = .ok (.iload 4, 2) := by decide +kernel
theorem dX4_completions_80 : decode cX4_completions 80 = .ok (.iaload, 1) := by decide +kernel
theorem dX4_completions_81 : decode cX4_completions 81 = .ok (.iconst 0, 1) := by decide +kernel
theorem dX4_completions_82 : decode cX4_completions 82 = .ok (.iload_n 3, 1) := by decide +kernel
theorem dX4_completions_83 : decode cX4_completions 83 = .ok (.iload 4, 2) := by decide +kernel
theorem dX4_completions_85 : decode cX4_completions 85 = .ok (.ishr, 1) := by decide +kernel
theorem dX4_completions_86 : decode cX4_completions 86 = .ok (.iconst 1, 1) := by decide +kernel
theorem dX4_completions_87 : decode cX4_completions 87 = .ok (.iand, 1) := by decide +kernel
theorem dX4_completions_88 : decode cX4_completions 88 = .ok (.iconst 1, 1) := by decide +kernel
theorem dX4_completions_89 : decode cX4_completions 89 = .ok (.if_icmp .ne 7, 3) := by decide +kernel
theorem dX4_completions_92 : decode cX4_completions 92 = .ok (.iconst 1, 1) := by decide +kernel
theorem dX4_completions_93 : decode cX4_completions 93 = .ok (.goto 4, 3) := by decide +kernel
theorem dX4_completions_96 : decode cX4_completions 96 = .ok (.iconst (-1), 1) := by decide +kernel
theorem dX4_completions_97 : decode cX4_completions 97 = .ok (.invokevirtual 87, 3) := by decide +kernel
theorem dX4_completions_100 : decode cX4_completions 100 = .ok (.iinc 4 1, 3) := by decide +kernel
theorem dX4_completions_103 : decode cX4_completions 103 = .ok (.goto (-36), 3) := by decide +kernel
theorem dX4_completions_106 : decode cX4_completions 106 = .ok (.iload_n 2, 1) := by decide +kernel
theorem dX4_completions_107 : decode cX4_completions 107 = .ok (.aload_n 0, 1) := by decide +kernel
theorem dX4_completions_108 : decode cX4_completions 108 = .ok (.iconst 1, 1) := by decide +kernel
theorem dX4_completions_109 : decode cX4_completions 109 = .ok (.invokevirtual 192, 3) := by decide +kernel
theorem dX4_completions_112 : decode cX4_completions 112 = .ok (.ifCond .ne 7, 3) := by decide +kernel
theorem dX4_completions_115 : decode cX4_completions 115 = .ok (.iconst 1, 1) := by decide +kernel
theorem dX4_completions_116 : decode cX4_completions 116 = .ok (.goto 4, 3) := by decide +kernel
theorem dX4_completions_119 : decode cX4_completions 119 = .ok (.iconst 0, 1) := by decide +kernel
theorem dX4_completions_120 : decode cX4_completions 120 = .ok (.iadd, 1) := by decide +kernel
theorem dX4_completions_121 : decode cX4_completions 121 = .ok (.istore_n 2, 1) := by decide +kernel
theorem dX4_completions_122 : decode cX4_completions 122 = .ok (.iinc 3 1, 3) := by decide +kernel
theorem dX4_completions_125 : decode cX4_completions 125 = .ok (.goto (-68), 3) := by decide +kernel
theorem dX4_completions_128 : decode cX4_completions 128 = .ok (.iconst 0, 1) := by decide +kernel
theorem dX4_completions_129 : decode cX4_completions 129 = .ok (.istore_n 3, 1) := by decide +kernel
theorem dX4_completions_130 : decode cX4_completions 130 = .ok (.iload_n 3, 1) := by decide +kernel
theorem dX4_completions_131 : decode cX4_completions 131 = .ok (.iload_n 1, 1) := by decide +kernel
theorem dX4_completions_132 : decode cX4_completions 132 = .ok (.if_icmp .ge 22, 3) := by decide +kernel
theorem dX4_completions_135 : decode cX4_completions 135 = .ok (.aload_n 0, 1) := by decide +kernel
theorem dX4_completions_136 : decode cX4_completions 136 = .ok (.aload_n 0, 1) := by decide +kernel
theorem dX4_completions_137 : decode cX4_completions 137 = .ok (.getfield 44, 3) := by decide +kernel
theorem dX4_completions_140 : decode cX4_completions 140 = .ok (.iload_n 3, 1) := by decide +kernel
theorem dX4_completions_141 : decode cX4_completions 141 = .ok (.iaload, 1) := by decide +kernel
theorem dX4_completions_142 : decode cX4_completions 142 = .ok (.iconst 0, 1) := by decide +kernel
theorem dX4_completions_143 : decode cX4_completions 143 = .ok (.bipush (-100), 2) := by decide +kernel
theorem dX4_completions_145 : decode cX4_completions 145 = .ok (.invokevirtual 87, 3) := by decide +kernel
theorem dX4_completions_148 : decode cX4_completions 148 = .ok (.iinc 3 1, 3) := by decide +kernel
theorem dX4_completions_151 : decode cX4_completions 151 = .ok (.goto (-21), 3) := by decide +kernel
theorem dX4_completions_154 : decode cX4_completions 154 = .ok (.aload_n 0, 1) := by decide +kernel
theorem dX4_completions_155 : decode cX4_completions 155 = .ok (.iload_n 2, 1) := by decide +kernel
theorem dX4_completions_156 : decode cX4_completions 156 = .ok (.invokevirtual 67, 3) := by decide +kernel
theorem dX4_completions_159 : decode cX4_completions 159 = .ok (.ireturn, 1) := by decide +kernel
theorem dX4_cocircuit_0 : decode cX4_cocircuit 0 = .ok (.aload_n 0, 1) := by decide +kernel
theorem dX4_cocircuit_1 : decode cX4_cocircuit 1 = .ok (.iload_n 1, 1) := by decide +kernel
theorem dX4_cocircuit_2 : decode cX4_cocircuit 2 = .ok (.invokevirtual 95, 3) := by decide +kernel
theorem dX4_cocircuit_5 : decode cX4_cocircuit 5 = .ok (.ifCond .eq 11, 3) := by decide +kernel
theorem dX4_cocircuit_8 : decode cX4_cocircuit 8 = .ok (.aload_n 0, 1) := by decide +kernel
theorem dX4_cocircuit_9 : decode cX4_cocircuit 9 = .ok (.iload_n 2, 1) := by decide +kernel
theorem dX4_cocircuit_10 : decode cX4_cocircuit 10 = .ok (.invokevirtual 95, 3) := by decide +kernel
theorem dX4_cocircuit_13 : decode cX4_cocircuit 13 = .ok (.ifCond .ne 9, 3) := by decide +kernel
theorem dX4_cocircuit_16 : decode cX4_cocircuit 16 = .ok (.aload_n 0, 1) := by decide +kernel
theorem dX4_cocircuit_17 : decode cX4_cocircuit 17 = .ok (.iconst 1, 1) := by decide +kernel
theorem dX4_cocircuit_18 : decode cX4_cocircuit 18 = .ok (.invokevirtual 113, 3) := by decide +kernel
theorem dX4_cocircuit_21 : decode cX4_cocircuit 21 = .ok (.ireturn, 1) := by decide +kernel
theorem dX4_cocircuit_22 : decode cX4_cocircuit 22 = .ok (.iload_n 1, 1) := by decide +kernel
theorem dX4_cocircuit_23 : decode cX4_cocircuit 23 = .ok (.iload_n 2, 1) := by decide +kernel
theorem dX4_cocircuit_24 : decode cX4_cocircuit 24 = .ok (.if_icmp .ne 9, 3) := by decide +kernel
theorem dX4_cocircuit_27 : decode cX4_cocircuit 27 = .ok (.aload_n 0, 1) := by decide +kernel
theorem dX4_cocircuit_28 : decode cX4_cocircuit 28 = .ok (.iconst 2, 1) := by decide +kernel
theorem dX4_cocircuit_29 : decode cX4_cocircuit 29 = .ok (.invokevirtual 113, 3) := by decide +kernel
theorem dX4_cocircuit_32 : decode cX4_cocircuit 32 = .ok (.ireturn, 1) := by decide +kernel
theorem dX4_cocircuit_33 : decode cX4_cocircuit 33 = .ok (.iconst 0, 1) := by decide +kernel
theorem dX4_cocircuit_34 : decode cX4_cocircuit 34 = .ok (.istore_n 3, 1) := by decide +kernel
theorem dX4_cocircuit_35 : decode cX4_cocircuit 35 = .ok (.aload_n 0, 1) := by decide +kernel
theorem dX4_cocircuit_36 : decode cX4_cocircuit 36 = .ok (.getfield 7, 3) := by decide +kernel
theorem dX4_cocircuit_39 : decode cX4_cocircuit 39 = .ok (.iconst 0, 1) := by decide +kernel
theorem dX4_cocircuit_40 : decode cX4_cocircuit 40 = .ok (.iaload, 1) := by decide +kernel
theorem dX4_cocircuit_41 : decode cX4_cocircuit 41 = .ok (.iconst 1, 1) := by decide +kernel
theorem dX4_cocircuit_42 : decode cX4_cocircuit 42 = .ok (.isub, 1) := by decide +kernel
theorem dX4_cocircuit_43 : decode cX4_cocircuit 43 = .ok (.istore 4, 2) := by decide +kernel
theorem dX4_cocircuit_45 : decode cX4_cocircuit 45 = .ok (.iload 4, 2) := by decide +kernel
theorem dX4_cocircuit_47 : decode cX4_cocircuit 47 = .ok (.ifCond .lt 58, 3) := by decide +kernel
theorem dX4_cocircuit_50 : decode cX4_cocircuit 50 = .ok (.aload_n 0, 1) := by decide +kernel
theorem dX4_cocircuit_51 : decode cX4_cocircuit 51 = .ok (.iload_n 1, 1) := by decide +kernel
theorem dX4_cocircuit_52 : decode cX4_cocircuit 52 = .ok (.iload_n 2, 1) := by decide +kernel
theorem dX4_cocircuit_53 : decode cX4_cocircuit 53 = .ok (.iload 4, 2) := by decide +kernel
theorem dX4_cocircuit_55 : decode cX4_cocircuit 55 = .ok (.invokevirtual 129, 3) := by decide +kernel
theorem dX4_cocircuit_58 : decode cX4_cocircuit 58 = .ok (.istore 5, 2) := by decide +kernel
theorem dX4_cocircuit_60 : decode cX4_cocircuit 60 = .ok (.iload 5, 2) := by decide +kernel
theorem dX4_cocircuit_62 : decode cX4_cocircuit 62 = .ok (.bipush (-100), 2) := by decide +kernel
theorem dX4_cocircuit_64 : decode cX4_cocircuit 64 = .ok (.if_icmp .ne 9, 3) := by decide +kernel
theorem dX4_cocircuit_67 : decode cX4_cocircuit 67 = .ok (.aload_n 0, 1) := by decide +kernel
theorem dX4_cocircuit_68 : decode cX4_cocircuit 68 = .ok (.iconst 3, 1) := by decide +kernel
theorem dX4_cocircuit_69 : decode cX4_cocircuit 69 = .ok (.invokevirtual 113, 3) := by decide +kernel
theorem dX4_cocircuit_72 : decode cX4_cocircuit 72 = .ok (.ireturn, 1) := by decide +kernel
theorem dX4_cocircuit_73 : decode cX4_cocircuit 73 = .ok (.iconst 4, 1) := by decide +kernel
theorem dX4_cocircuit_74 : decode cX4_cocircuit 74 = .ok (.iload_n 3, 1) := by decide +kernel
theorem dX4_cocircuit_75 : decode cX4_cocircuit 75 = .ok (.imul, 1) := by decide +kernel
theorem dX4_cocircuit_76 : decode cX4_cocircuit 76 = .ok (.iload 5, 2) := by decide +kernel
theorem dX4_cocircuit_78 : decode cX4_cocircuit 78 = .ok (.iconst 1, 1) := by decide +kernel
theorem dX4_cocircuit_79 : decode cX4_cocircuit 79 = .ok (.if_icmp .ne 7, 3) := by decide +kernel
theorem dX4_cocircuit_82 : decode cX4_cocircuit 82 = .ok (.iconst 1, 1) := by decide +kernel
theorem dX4_cocircuit_83 : decode cX4_cocircuit 83 = .ok (.goto 14, 3) := by decide +kernel
theorem dX4_cocircuit_86 : decode cX4_cocircuit 86 = .ok (.iload 5, 2) := by decide +kernel
theorem dX4_cocircuit_88 : decode cX4_cocircuit 88 = .ok (.iconst (-1), 1) := by decide +kernel
theorem dX4_cocircuit_89 : decode cX4_cocircuit 89 = .ok (.if_icmp .ne 7, 3) := by decide +kernel
theorem dX4_cocircuit_92 : decode cX4_cocircuit 92 = .ok (.iconst 2, 1) := by decide +kernel
theorem dX4_cocircuit_93 : decode cX4_cocircuit 93 = .ok (.goto 4, 3) := by decide +kernel
theorem dX4_cocircuit_96 : decode cX4_cocircuit 96 = .ok (.iconst 0, 1) := by decide +kernel
theorem dX4_cocircuit_97 : decode cX4_cocircuit 97 = .ok (.iadd, 1) := by decide +kernel
theorem dX4_cocircuit_98 : decode cX4_cocircuit 98 = .ok (.istore_n 3, 1) := by decide +kernel
theorem dX4_cocircuit_99 : decode cX4_cocircuit 99 = .ok (.iinc 4 (-1), 3) := by decide +kernel
theorem dX4_cocircuit_102 : decode cX4_cocircuit 102 = .ok (.goto (-57), 3) := by decide +kernel
theorem dX4_cocircuit_105 : decode cX4_cocircuit 105 = .ok (.aload_n 0, 1) := by decide +kernel
theorem dX4_cocircuit_106 : decode cX4_cocircuit 106 = .ok (.iload_n 3, 1) := by decide +kernel
theorem dX4_cocircuit_107 : decode cX4_cocircuit 107 = .ok (.invokevirtual 67, 3) := by decide +kernel
theorem dX4_cocircuit_110 : decode cX4_cocircuit 110 = .ok (.ireturn, 1) := by decide +kernel
theorem dX4_extreme_0 : decode cX4_extreme 0 = .ok (.iconst 0, 1) := by decide +kernel
theorem dX4_extreme_1 : decode cX4_extreme 1 = .ok (.istore_n 2, 1) := by decide +kernel
theorem dX4_extreme_2 : decode cX4_extreme 2 = .ok (.iconst 0, 1) := by decide +kernel
theorem dX4_extreme_3 : decode cX4_extreme 3 = .ok (.istore_n 3, 1) := by decide +kernel
theorem dX4_extreme_4 : decode cX4_extreme 4 = .ok (.iload_n 3, 1) := by decide +kernel
theorem dX4_extreme_5 : decode cX4_extreme 5 = .ok (.aload_n 0, 1) := by decide +kernel
theorem dX4_extreme_6 : decode cX4_extreme 6 = .ok (.getfield 7, 3) := by decide +kernel
theorem dX4_extreme_9 : decode cX4_extreme 9 = .ok (.iconst 0, 1) := by decide +kernel
theorem dX4_extreme_10 : decode cX4_extreme 10 = .ok (.iaload, 1) := by decide +kernel
theorem dX4_extreme_11 : decode cX4_extreme 11 = .ok (.if_icmp .ge 141, 3) := by decide +kernel
theorem dX4_extreme_14 : decode cX4_extreme 14 = .ok (.iconst 0, 1) := by decide +kernel
theorem dX4_extreme_15 : decode cX4_extreme 15 = .ok (.istore 4, 2) := by decide +kernel
theorem dX4_extreme_17 : decode cX4_extreme 17 = .ok (.iconst 0, 1) := by decide +kernel
theorem dX4_extreme_18 : decode cX4_extreme 18 = .ok (.istore 5, 2) := by decide +kernel
theorem dX4_extreme_20 : decode cX4_extreme 20 = .ok (.iload_n 3, 1) := by decide +kernel
theorem dX4_extreme_21 : decode cX4_extreme 21 = .ok (.iload_n 1, 1) := by decide +kernel
theorem dX4_extreme_22 : decode cX4_extreme 22 = .ok (.if_icmp .eq 7, 3) := by decide +kernel
theorem dX4_extreme_25 : decode cX4_extreme 25 = .ok (.iconst 1, 1) := by decide +kernel
theorem dX4_extreme_26 : decode cX4_extreme 26 = .ok (.goto 4, 3) := by decide +kernel
theorem dX4_extreme_29 : decode cX4_extreme 29 = .ok (.iconst 0, 1) := by decide +kernel
theorem dX4_extreme_30 : decode cX4_extreme 30 = .ok (.istore 6, 2) := by decide +kernel
theorem dX4_extreme_32 : decode cX4_extreme 32 = .ok (.iconst 0, 1) := by decide +kernel
theorem dX4_extreme_33 : decode cX4_extreme 33 = .ok (.istore 7, 2) := by decide +kernel
theorem dX4_extreme_35 : decode cX4_extreme 35 = .ok (.iload 7, 2) := by decide +kernel
theorem dX4_extreme_37 : decode cX4_extreme 37 = .ok (.aload_n 0, 1) := by decide +kernel
theorem dX4_extreme_38 : decode cX4_extreme 38 = .ok (.getfield 7, 3) := by decide +kernel
theorem dX4_extreme_41 : decode cX4_extreme 41 = .ok (.iconst 0, 1) := by decide +kernel
theorem dX4_extreme_42 : decode cX4_extreme 42 = .ok (.iaload, 1) := by decide +kernel
theorem dX4_extreme_43 : decode cX4_extreme 43 = .ok (.if_icmp .ge 70, 3) := by decide +kernel
theorem dX4_extreme_46 : decode cX4_extreme 46 = .ok (.aload_n 0, 1) := by decide +kernel
theorem dX4_extreme_47 : decode cX4_extreme 47 = .ok (.iload_n 1, 1) := by decide +kernel
theorem dX4_extreme_48 : decode cX4_extreme 48 = .ok (.iload_n 3, 1) := by decide +kernel
theorem dX4_extreme_49 : decode cX4_extreme 49 = .ok (.iload 7, 2) := by decide +kernel
theorem dX4_extreme_51 : decode cX4_extreme 51 = .ok (.invokevirtual 129, 3) := by decide +kernel
theorem dX4_extreme_54 : decode cX4_extreme 54 = .ok (.istore 8, 2) := by decide +kernel
theorem dX4_extreme_56 : decode cX4_extreme 56 = .ok (.iload 6, 2) := by decide +kernel
theorem dX4_extreme_58 : decode cX4_extreme 58 = .ok (.ifCond .eq 14, 3) := by decide +kernel
theorem dX4_extreme_61 : decode cX4_extreme 61 = .ok (.iload 8, 2) := by decide +kernel
theorem dX4_extreme_63 : decode cX4_extreme 63 = .ok (.bipush (-100), 2) := by decide +kernel
theorem dX4_extreme_65 : decode cX4_extreme 65 = .ok (.if_icmp .eq 7, 3) := by decide +kernel
theorem dX4_extreme_68 : decode cX4_extreme 68 = .ok (.iconst 1, 1) := by decide +kernel
theorem dX4_extreme_69 : decode cX4_extreme 69 = .ok (.goto 4, 3) := by decide +kernel
theorem dX4_extreme_72 : decode cX4_extreme 72 = .ok (.iconst 0, 1) := by decide +kernel
theorem dX4_extreme_73 : decode cX4_extreme 73 = .ok (.istore 6, 2) := by decide +kernel
theorem dX4_extreme_75 : decode cX4_extreme 75 = .ok (.iload 4, 2) := by decide +kernel
theorem dX4_extreme_77 : decode cX4_extreme 77 = .ok (.iload 8, 2) := by decide +kernel
theorem dX4_extreme_79 : decode cX4_extreme 79 = .ok (.iconst 1, 1) := by decide +kernel
theorem dX4_extreme_80 : decode cX4_extreme 80 = .ok (.if_icmp .ne 7, 3) := by decide +kernel
theorem dX4_extreme_83 : decode cX4_extreme 83 = .ok (.iconst 1, 1) := by decide +kernel
theorem dX4_extreme_84 : decode cX4_extreme 84 = .ok (.goto 4, 3) := by decide +kernel
theorem dX4_extreme_87 : decode cX4_extreme 87 = .ok (.iconst 0, 1) := by decide +kernel
theorem dX4_extreme_88 : decode cX4_extreme 88 = .ok (.iadd, 1) := by decide +kernel
theorem dX4_extreme_89 : decode cX4_extreme 89 = .ok (.istore 4, 2) := by decide +kernel
theorem dX4_extreme_91 : decode cX4_extreme 91 = .ok (.iload 5, 2) := by decide +kernel
theorem dX4_extreme_93 : decode cX4_extreme 93 = .ok (.iload 8, 2) := by decide +kernel
theorem dX4_extreme_95 : decode cX4_extreme 95 = .ok (.iconst (-1), 1) := by decide +kernel
theorem dX4_extreme_96 : decode cX4_extreme 96 = .ok (.if_icmp .ne 7, 3) := by decide +kernel
theorem dX4_extreme_99 : decode cX4_extreme 99 = .ok (.iconst 1, 1) := by decide +kernel
theorem dX4_extreme_100 : decode cX4_extreme 100 = .ok (.goto 4, 3) := by decide +kernel
theorem dX4_extreme_103 : decode cX4_extreme 103 = .ok (.iconst 0, 1) := by decide +kernel
theorem dX4_extreme_104 : decode cX4_extreme 104 = .ok (.iadd, 1) := by decide +kernel
theorem dX4_extreme_105 : decode cX4_extreme 105 = .ok (.istore 5, 2) := by decide +kernel
theorem dX4_extreme_107 : decode cX4_extreme 107 = .ok (.iinc 7 1, 3) := by decide +kernel
theorem dX4_extreme_110 : decode cX4_extreme 110 = .ok (.goto (-75), 3) := by decide +kernel
theorem dX4_extreme_113 : decode cX4_extreme 113 = .ok (.iload_n 2, 1) := by decide +kernel
theorem dX4_extreme_114 : decode cX4_extreme 114 = .ok (.ifCond .ne 26, 3) := by decide +kernel
theorem dX4_extreme_117 : decode cX4_extreme 117 = .ok (.iload 6, 2) := by decide +kernel
theorem dX4_extreme_119 : decode cX4_extreme 119 = .ok (.ifCond .eq 25, 3) := by decide +kernel
theorem dX4_extreme_122 : decode cX4_extreme 122 = .ok (.iload 4, 2) := by decide +kernel
theorem dX4_extreme_124 : decode cX4_extreme 124 = .ok (.ifCond .eq 8, 3) := by decide +kernel
theorem dX4_extreme_127 : decode cX4_extreme 127 = .ok (.iload 5, 2) := by decide +kernel
theorem dX4_extreme_129 : decode cX4_extreme 129 = .ok (.ifCond .ne 15, 3) := by decide +kernel
theorem dX4_extreme_132 : decode cX4_extreme 132 = .ok (.iload 4, 2) := by decide +kernel
theorem dX4_extreme_134 : decode cX4_extreme 134 = .ok (.iload 5, 2) := by decide +kernel
theorem dX4_extreme_136 : decode cX4_extreme 136 = .ok (.iadd, 1) := by decide +kernel
theorem dX4_extreme_137 : decode cX4_extreme 137 = .ok (.ifCond .le 7, 3) := by decide +kernel
theorem dX4_extreme_140 : decode cX4_extreme 140 = .ok (.iconst 1, 1) := by decide +kernel
theorem dX4_extreme_141 : decode cX4_extreme 141 = .ok (.goto 4, 3) := by decide +kernel
theorem dX4_extreme_144 : decode cX4_extreme 144 = .ok (.iconst 0, 1) := by decide +kernel
theorem dX4_extreme_145 : decode cX4_extreme 145 = .ok (.istore_n 2, 1) := by decide +kernel
theorem dX4_extreme_146 : decode cX4_extreme 146 = .ok (.iinc 3 1, 3) := by decide +kernel
theorem dX4_extreme_149 : decode cX4_extreme 149 = .ok (.goto (-145), 3) := by decide +kernel
theorem dX4_extreme_152 : decode cX4_extreme 152 = .ok (.iload_n 2, 1) := by decide +kernel
theorem dX4_extreme_153 : decode cX4_extreme 153 = .ok (.ireturn, 1) := by decide +kernel
theorem dX4_isExtreme_0 : decode cX4_isExtreme 0 = .ok (.aload_n 0, 1) := by decide +kernel
theorem dX4_isExtreme_1 : decode cX4_isExtreme 1 = .ok (.iload_n 1, 1) := by decide +kernel
theorem dX4_isExtreme_2 : decode cX4_isExtreme 2 = .ok (.invokevirtual 95, 3) := by decide +kernel
theorem dX4_isExtreme_5 : decode cX4_isExtreme 5 = .ok (.ifCond .ne 17, 3) := by decide +kernel
theorem dX4_isExtreme_8 : decode cX4_isExtreme 8 = .ok (.aload_n 0, 1) := by decide +kernel
theorem dX4_isExtreme_9 : decode cX4_isExtreme 9 = .ok (.iconst 1, 1) := by decide +kernel
theorem dX4_isExtreme_10 : decode cX4_isExtreme 10 = .ok (.invokevirtual 113, 3) := by decide +kernel
theorem dX4_isExtreme_13 : decode cX4_isExtreme 13 = .ok (.ifCond .eq 7, 3) := by decide +kernel
theorem dX4_isExtreme_16 : decode cX4_isExtreme 16 = .ok (.iconst 1, 1) := by decide +kernel
theorem dX4_isExtreme_17 : decode cX4_isExtreme 17 = .ok (.goto 4, 3) := by decide +kernel
theorem dX4_isExtreme_20 : decode cX4_isExtreme 20 = .ok (.iconst 0, 1) := by decide +kernel
theorem dX4_isExtreme_21 : decode cX4_isExtreme 21 = .ok (.ireturn, 1) := by decide +kernel
theorem dX4_isExtreme_22 : decode cX4_isExtreme 22 = .ok (.aload_n 0, 1) := by decide +kernel
theorem dX4_isExtreme_23 : decode cX4_isExtreme 23 = .ok (.iconst 0, 1) := by decide +kernel
theorem dX4_isExtreme_24 : decode cX4_isExtreme 24 = .ok (.putfield 60, 3) := by decide +kernel
theorem dX4_isExtreme_27 : decode cX4_isExtreme 27 = .ok (.aload_n 0, 1) := by decide +kernel
theorem dX4_isExtreme_28 : decode cX4_isExtreme 28 = .ok (.iload_n 1, 1) := by decide +kernel
theorem dX4_isExtreme_29 : decode cX4_isExtreme 29 = .ok (.invokevirtual 205, 3) := by decide +kernel
theorem dX4_isExtreme_32 : decode cX4_isExtreme 32 = .ok (.ireturn, 1) := by decide +kernel
theorem dX4_lineOf_0 : decode cX4_lineOf 0 = .ok (.iconst 1, 1) := by decide +kernel
theorem dX4_lineOf_1 : decode cX4_lineOf 1 = .ok (.iload_n 1, 1) := by decide +kernel
theorem dX4_lineOf_2 : decode cX4_lineOf 2 = .ok (.ishl, 1) := by decide +kernel
theorem dX4_lineOf_3 : decode cX4_lineOf 3 = .ok (.iconst 1, 1) := by decide +kernel
theorem dX4_lineOf_4 : decode cX4_lineOf 4 = .ok (.iload_n 2, 1) := by decide +kernel
theorem dX4_lineOf_5 : decode cX4_lineOf 5 = .ok (.ishl, 1) := by decide +kernel
theorem dX4_lineOf_6 : decode cX4_lineOf 6 = .ok (.ior, 1) := by decide +kernel
theorem dX4_lineOf_7 : decode cX4_lineOf 7 = .ok (.istore_n 3, 1) := by decide +kernel
theorem dX4_lineOf_8 : decode cX4_lineOf 8 = .ok (.iconst 0, 1) := by decide +kernel
theorem dX4_lineOf_9 : decode cX4_lineOf 9 = .ok (.istore 4, 2) := by decide +kernel
theorem dX4_lineOf_11 : decode cX4_lineOf 11 = .ok (.iload 4, 2) := by decide +kernel
theorem dX4_lineOf_13 : decode cX4_lineOf 13 = .ok (.aload_n 0, 1) := by decide +kernel
theorem dX4_lineOf_14 : decode cX4_lineOf 14 = .ok (.getfield 7, 3) := by decide +kernel
theorem dX4_lineOf_17 : decode cX4_lineOf 17 = .ok (.iconst 0, 1) := by decide +kernel
theorem dX4_lineOf_18 : decode cX4_lineOf 18 = .ok (.iaload, 1) := by decide +kernel
theorem dX4_lineOf_19 : decode cX4_lineOf 19 = .ok (.if_icmp .ge 31, 3) := by decide +kernel
theorem dX4_lineOf_22 : decode cX4_lineOf 22 = .ok (.iload_n 3, 1) := by decide +kernel
theorem dX4_lineOf_23 : decode cX4_lineOf 23 = .ok (.aload_n 0, 1) := by decide +kernel
theorem dX4_lineOf_24 : decode cX4_lineOf 24 = .ok (.iload_n 1, 1) := by decide +kernel
theorem dX4_lineOf_25 : decode cX4_lineOf 25 = .ok (.iload_n 2, 1) := by decide +kernel
theorem dX4_lineOf_26 : decode cX4_lineOf 26 = .ok (.iload 4, 2) := by decide +kernel
theorem dX4_lineOf_28 : decode cX4_lineOf 28 = .ok (.invokevirtual 129, 3) := by decide +kernel
theorem dX4_lineOf_31 : decode cX4_lineOf 31 = .ok (.ifCond .ne 10, 3) := by decide +kernel
theorem dX4_lineOf_34 : decode cX4_lineOf 34 = .ok (.iconst 1, 1) := by decide +kernel
theorem dX4_lineOf_35 : decode cX4_lineOf 35 = .ok (.iload 4, 2) := by decide +kernel
theorem dX4_lineOf_37 : decode cX4_lineOf 37 = .ok (.ishl, 1) := by decide +kernel
theorem dX4_lineOf_38 : decode cX4_lineOf 38 = .ok (.goto 4, 3) := by decide +kernel
theorem dX4_lineOf_41 : decode cX4_lineOf 41 = .ok (.iconst 0, 1) := by decide +kernel
theorem dX4_lineOf_42 : decode cX4_lineOf 42 = .ok (.ior, 1) := by decide +kernel
theorem dX4_lineOf_43 : decode cX4_lineOf 43 = .ok (.istore_n 3, 1) := by decide +kernel
theorem dX4_lineOf_44 : decode cX4_lineOf 44 = .ok (.iinc 4 1, 3) := by decide +kernel
theorem dX4_lineOf_47 : decode cX4_lineOf 47 = .ok (.goto (-36), 3) := by decide +kernel
theorem dX4_lineOf_50 : decode cX4_lineOf 50 = .ok (.iload_n 3, 1) := by decide +kernel
theorem dX4_lineOf_51 : decode cX4_lineOf 51 = .ok (.ireturn, 1) := by decide +kernel
theorem dX4_lines_0 : decode cX4_lines 0 = .ok (.aload_n 0, 1) := by decide +kernel
theorem dX4_lines_1 : decode cX4_lines 1 = .ok (.iconst 0, 1) := by decide +kernel
theorem dX4_lines_2 : decode cX4_lines 2 = .ok (.invokevirtual 161, 3) := by decide +kernel
theorem dX4_lines_5 : decode cX4_lines 5 = .ok (.ifCond .le 9, 3) := by decide +kernel
theorem dX4_lines_8 : decode cX4_lines 8 = .ok (.aload_n 0, 1) := by decide +kernel
theorem dX4_lines_9 : decode cX4_lines 9 = .ok (.iconst 1, 1) := by decide +kernel
theorem dX4_lines_10 : decode cX4_lines 10 = .ok (.invokevirtual 113, 3) := by decide +kernel
theorem dX4_lines_13 : decode cX4_lines 13 = .ok (.ireturn, 1) := by decide +kernel
theorem dX4_lines_14 : decode cX4_lines 14 = .ok (.iconst 0, 1) := by decide +kernel
theorem dX4_lines_15 : decode cX4_lines 15 = .ok (.istore_n 1, 1) := by decide +kernel
theorem dX4_lines_16 : decode cX4_lines 16 = .ok (.iconst 0, 1) := by decide +kernel
theorem dX4_lines_17 : decode cX4_lines 17 = .ok (.istore_n 2, 1) := by decide +kernel
theorem dX4_lines_18 : decode cX4_lines 18 = .ok (.iload_n 2, 1) := by decide +kernel
theorem dX4_lines_19 : decode cX4_lines 19 = .ok (.aload_n 0, 1) := by decide +kernel
theorem dX4_lines_20 : decode cX4_lines 20 = .ok (.getfield 7, 3) := by decide +kernel
theorem dX4_lines_23 : decode cX4_lines 23 = .ok (.iconst 0, 1) := by decide +kernel
theorem dX4_lines_24 : decode cX4_lines 24 = .ok (.iaload, 1) := by decide +kernel
theorem dX4_lines_25 : decode cX4_lines 25 = .ok (.if_icmp .ge 95, 3) := by decide +kernel
theorem dX4_lines_28 : decode cX4_lines 28 = .ok (.iload_n 2, 1) := by decide +kernel
theorem dX4_lines_29 : decode cX4_lines 29 = .ok (.iconst 1, 1) := by decide +kernel
theorem dX4_lines_30 : decode cX4_lines 30 = .ok (.iadd, 1) := by decide +kernel
theorem dX4_lines_31 : decode cX4_lines 31 = .ok (.istore_n 3, 1) := by decide +kernel
theorem dX4_lines_32 : decode cX4_lines 32 = .ok (.iload_n 3, 1) := by decide +kernel
theorem dX4_lines_33 : decode cX4_lines 33 = .ok (.aload_n 0, 1) := by decide +kernel
theorem dX4_lines_34 : decode cX4_lines 34 = .ok (.getfield 7, 3) := by decide +kernel
theorem dX4_lines_37 : decode cX4_lines 37 = .ok (.iconst 0, 1) := by decide +kernel
theorem dX4_lines_38 : decode cX4_lines 38 = .ok (.iaload, 1) := by decide +kernel
theorem dX4_lines_39 : decode cX4_lines 39 = .ok (.if_icmp .ge 75, 3) := by decide +kernel
theorem dX4_lines_42 : decode cX4_lines 42 = .ok (.aload_n 0, 1) := by decide +kernel
theorem dX4_lines_43 : decode cX4_lines 43 = .ok (.iload_n 2, 1) := by decide +kernel
theorem dX4_lines_44 : decode cX4_lines 44 = .ok (.iload_n 3, 1) := by decide +kernel
theorem dX4_lines_45 : decode cX4_lines 45 = .ok (.invokevirtual 208, 3) := by decide +kernel
theorem dX4_lines_48 : decode cX4_lines 48 = .ok (.istore 4, 2) := by decide +kernel
theorem dX4_lines_50 : decode cX4_lines 50 = .ok (.iconst 0, 1) := by decide +kernel
theorem dX4_lines_51 : decode cX4_lines 51 = .ok (.istore 5, 2) := by decide +kernel
theorem dX4_lines_53 : decode cX4_lines 53 = .ok (.iconst 0, 1) := by decide +kernel
theorem dX4_lines_54 : decode cX4_lines 54 = .ok (.istore 6, 2) := by decide +kernel
theorem dX4_lines_56 : decode cX4_lines 56 = .ok (.iload 6, 2) := by decide +kernel
theorem dX4_lines_58 : decode cX4_lines 58 = .ok (.iload_n 1, 1) := by decide +kernel
theorem dX4_lines_59 : decode cX4_lines 59 = .ok (.if_icmp .ge 33, 3) := by decide +kernel
theorem dX4_lines_62 : decode cX4_lines 62 = .ok (.iload 5, 2) := by decide +kernel
theorem dX4_lines_64 : decode cX4_lines 64 = .ok (.ifCond .ne 15, 3) := by decide +kernel
theorem dX4_lines_67 : decode cX4_lines 67 = .ok (.aload_n 0, 1) := by decide +kernel
theorem dX4_lines_68 : decode cX4_lines 68 = .ok (.getfield 47, 3) := by decide +kernel
theorem dX4_lines_71 : decode cX4_lines 71 = .ok (.iload 6, 2) := by decide +kernel
theorem dX4_lines_73 : decode cX4_lines 73 = .ok (.iaload, 1) := by decide +kernel
theorem dX4_lines_74 : decode cX4_lines 74 = .ok (.iload 4, 2) := by decide +kernel
theorem dX4_lines_76 : decode cX4_lines 76 = .ok (.if_icmp .ne 7, 3) := by decide +kernel
theorem dX4_lines_79 : decode cX4_lines 79 = .ok (.iconst 1, 1) := by decide +kernel
theorem dX4_lines_80 : decode cX4_lines 80 = .ok (.goto 4, 3) := by decide +kernel
theorem dX4_lines_83 : decode cX4_lines 83 = .ok (.iconst 0, 1) := by decide +kernel
theorem dX4_lines_84 : decode cX4_lines 84 = .ok (.istore 5, 2) := by decide +kernel
theorem dX4_lines_86 : decode cX4_lines 86 = .ok (.iinc 6 1, 3) := by decide +kernel
theorem dX4_lines_89 : decode cX4_lines 89 = .ok (.goto (-33), 3) := by decide +kernel
theorem dX4_lines_92 : decode cX4_lines 92 = .ok (.iload 5, 2) := by decide +kernel
theorem dX4_lines_94 : decode cX4_lines 94 = .ok (.ifCond .ne 14, 3) := by decide +kernel
theorem dX4_lines_97 : decode cX4_lines 97 = .ok (.aload_n 0, 1) := by decide +kernel
theorem dX4_lines_98 : decode cX4_lines 98 = .ok (.getfield 47, 3) := by decide +kernel
theorem dX4_lines_101 : decode cX4_lines 101 = .ok (.iload_n 1, 1) := by decide +kernel
theorem dX4_lines_102 : decode cX4_lines 102 = .ok (.iload 4, 2) := by decide +kernel
theorem dX4_lines_104 : decode cX4_lines 104 = .ok (.iastore, 1) := by decide +kernel
theorem dX4_lines_105 : decode cX4_lines 105 = .ok (.iinc 1 1, 3) := by decide +kernel
theorem dX4_lines_108 : decode cX4_lines 108 = .ok (.iinc 3 1, 3) := by decide +kernel
theorem dX4_lines_111 : decode cX4_lines 111 = .ok (.goto (-79), 3) := by decide +kernel
theorem dX4_lines_114 : decode cX4_lines 114 = .ok (.iinc 2 1, 3) := by decide +kernel
theorem dX4_lines_117 : decode cX4_lines 117 = .ok (.goto (-99), 3) := by decide +kernel
theorem dX4_lines_120 : decode cX4_lines 120 = .ok (.aload_n 0, 1) := by decide +kernel
theorem dX4_lines_121 : decode cX4_lines 121 = .ok (.iload_n 1, 1) := by decide +kernel
theorem dX4_lines_122 : decode cX4_lines 122 = .ok (.invokevirtual 67, 3) := by decide +kernel
theorem dX4_lines_125 : decode cX4_lines 125 = .ok (.ireturn, 1) := by decide +kernel
theorem dX4_isPlaced_0 : decode cX4_isPlaced 0 = .ok (.aload_n 0, 1) := by decide +kernel
theorem dX4_isPlaced_1 : decode cX4_isPlaced 1 = .ok (.getfield 7, 3) := by decide +kernel
theorem dX4_isPlaced_4 : decode cX4_isPlaced 4 = .ok (.sipush 227, 3) := by decide +kernel
theorem dX4_isPlaced_7 : decode cX4_isPlaced 7 = .ok (.iconst 2, 1) := by decide +kernel
theorem dX4_isPlaced_8 : decode cX4_isPlaced 8 = .ok (.iload_n 1, 1) := by decide +kernel
theorem dX4_isPlaced_9 : decode cX4_isPlaced 9 = .ok (.imul, 1) := by decide +kernel
theorem dX4_isPlaced_10 : decode cX4_isPlaced 10 = .ok (.iadd, 1) := by decide +kernel
theorem dX4_isPlaced_11 : decode cX4_isPlaced 11 = .ok (.iaload, 1) := by decide +kernel
theorem dX4_isPlaced_12 : decode cX4_isPlaced 12 = .ok (.bipush (-100), 2) := by decide +kernel
theorem dX4_isPlaced_14 : decode cX4_isPlaced 14 = .ok (.if_icmp .eq 7, 3) := by decide +kernel
theorem dX4_isPlaced_17 : decode cX4_isPlaced 17 = .ok (.iconst 1, 1) := by decide +kernel
theorem dX4_isPlaced_18 : decode cX4_isPlaced 18 = .ok (.goto 4, 3) := by decide +kernel
theorem dX4_isPlaced_21 : decode cX4_isPlaced 21 = .ok (.iconst 0, 1) := by decide +kernel
theorem dX4_isPlaced_22 : decode cX4_isPlaced 22 = .ok (.ireturn, 1) := by decide +kernel
theorem dX4_place_0 : decode cX4_place 0 = .ok (.aload_n 0, 1) := by decide +kernel
theorem dX4_place_1 : decode cX4_place 1 = .ok (.iload_n 1, 1) := by decide +kernel
theorem dX4_place_2 : decode cX4_place 2 = .ok (.invokevirtual 95, 3) := by decide +kernel
theorem dX4_place_5 : decode cX4_place 5 = .ok (.ifCond .ne 17, 3) := by decide +kernel
theorem dX4_place_8 : decode cX4_place 8 = .ok (.aload_n 0, 1) := by decide +kernel
theorem dX4_place_9 : decode cX4_place 9 = .ok (.iconst 1, 1) := by decide +kernel
theorem dX4_place_10 : decode cX4_place 10 = .ok (.invokevirtual 113, 3) := by decide +kernel
theorem dX4_place_13 : decode cX4_place 13 = .ok (.ifCond .eq 7, 3) := by decide +kernel
theorem dX4_place_16 : decode cX4_place 16 = .ok (.iconst 1, 1) := by decide +kernel
theorem dX4_place_17 : decode cX4_place 17 = .ok (.goto 4, 3) := by decide +kernel
theorem dX4_place_20 : decode cX4_place 20 = .ok (.iconst 0, 1) := by decide +kernel
theorem dX4_place_21 : decode cX4_place 21 = .ok (.ireturn, 1) := by decide +kernel
theorem dX4_place_22 : decode cX4_place 22 = .ok (.iload_n 2, 1) := by decide +kernel
theorem dX4_place_23 : decode cX4_place 23 = .ok (.bipush (-50), 2) := by decide +kernel
theorem dX4_place_25 : decode cX4_place 25 = .ok (.bipush 50, 2) := by decide +kernel
theorem dX4_place_27 : decode cX4_place 27 = .ok (.invokestatic 91, 3) := by decide +kernel
theorem dX4_place_30 : decode cX4_place 30 = .ok (.ifCond .eq 14, 3) := by decide +kernel
theorem dX4_place_33 : decode cX4_place 33 = .ok (.iload_n 3, 1) := by decide +kernel
theorem dX4_place_34 : decode cX4_place 34 = .ok (.bipush (-50), 2) := by decide +kernel
theorem dX4_place_36 : decode cX4_place 36 = .ok (.bipush 50, 2) := by decide +kernel
theorem dX4_place_38 : decode cX4_place 38 = .ok (.invokestatic 91, 3) := by decide +kernel
theorem dX4_place_41 : decode cX4_place 41 = .ok (.ifCond .ne 17, 3) := by decide +kernel
theorem dX4_place_44 : decode cX4_place 44 = .ok (.aload_n 0, 1) := by decide +kernel
theorem dX4_place_45 : decode cX4_place 45 = .ok (.iconst 2, 1) := by decide +kernel
theorem dX4_place_46 : decode cX4_place 46 = .ok (.invokevirtual 113, 3) := by decide +kernel
theorem dX4_place_49 : decode cX4_place 49 = .ok (.ifCond .eq 7, 3) := by decide +kernel
theorem dX4_place_52 : decode cX4_place 52 = .ok (.iconst 1, 1) := by decide +kernel
theorem dX4_place_53 : decode cX4_place 53 = .ok (.goto 4, 3) := by decide +kernel
theorem dX4_place_56 : decode cX4_place 56 = .ok (.iconst 0, 1) := by decide +kernel
theorem dX4_place_57 : decode cX4_place 57 = .ok (.ireturn, 1) := by decide +kernel
theorem dX4_place_58 : decode cX4_place 58 = .ok (.aload_n 0, 1) := by decide +kernel
theorem dX4_place_59 : decode cX4_place 59 = .ok (.invokevirtual 116, 3) := by decide +kernel
theorem dX4_place_62 : decode cX4_place 62 = .ok (.aload_n 0, 1) := by decide +kernel
theorem dX4_place_63 : decode cX4_place 63 = .ok (.iload_n 1, 1) := by decide +kernel
theorem dX4_place_64 : decode cX4_place 64 = .ok (.invokevirtual 211, 3) := by decide +kernel
theorem dX4_place_67 : decode cX4_place 67 = .ok (.istore 4, 2) := by decide +kernel
theorem dX4_place_69 : decode cX4_place 69 = .ok (.aload_n 0, 1) := by decide +kernel
theorem dX4_place_70 : decode cX4_place 70 = .ok (.getfield 7, 3) := by decide +kernel
theorem dX4_place_73 : decode cX4_place 73 = .ok (.sipush 227, 3) := by decide +kernel
theorem dX4_place_76 : decode cX4_place 76 = .ok (.iconst 2, 1) := by decide +kernel
theorem dX4_place_77 : decode cX4_place 77 = .ok (.iload_n 1, 1) := by decide +kernel
theorem dX4_place_78 : decode cX4_place 78 = .ok (.imul, 1) := by decide +kernel
theorem dX4_place_79 : decode cX4_place 79 = .ok (.iadd, 1) := by decide +kernel
theorem dX4_place_80 : decode cX4_place 80 = .ok (.iload_n 2, 1) := by decide +kernel
theorem dX4_place_81 : decode cX4_place 81 = .ok (.iastore, 1) := by decide +kernel
theorem dX4_place_82 : decode cX4_place 82 = .ok (.aload_n 0, 1) := by decide +kernel
theorem dX4_place_83 : decode cX4_place 83 = .ok (.getfield 7, 3) := by decide +kernel
theorem dX4_place_86 : decode cX4_place 86 = .ok (.sipush 227, 3) := by decide +kernel
theorem dX4_place_89 : decode cX4_place 89 = .ok (.iconst 2, 1) := by decide +kernel
theorem dX4_place_90 : decode cX4_place 90 = .ok (.iload_n 1, 1) := by decide +kernel
theorem dX4_place_91 : decode cX4_place 91 = .ok (.imul, 1) := by decide +kernel
theorem dX4_place_92 : decode cX4_place 92 = .ok (.iadd, 1) := by decide +kernel
theorem dX4_place_93 : decode cX4_place 93 = .ok (.iconst 1, 1) := by decide +kernel
theorem dX4_place_94 : decode cX4_place 94 = .ok (.iadd, 1) := by decide +kernel
theorem dX4_place_95 : decode cX4_place 95 = .ok (.iload_n 3, 1) := by decide +kernel
theorem dX4_place_96 : decode cX4_place 96 = .ok (.iastore, 1) := by decide +kernel
theorem dX4_place_97 : decode cX4_place 97 = .ok (.aload_n 0, 1) := by decide +kernel
theorem dX4_place_98 : decode cX4_place 98 = .ok (.iload 4, 2) := by decide +kernel
theorem dX4_place_100 : decode cX4_place 100 = .ok (.ifCond .eq 7, 3) := by decide +kernel
theorem dX4_place_103 : decode cX4_place 103 = .ok (.iconst 1, 1) := by decide +kernel
theorem dX4_place_104 : decode cX4_place 104 = .ok (.goto 4, 3) := by decide +kernel
theorem dX4_place_107 : decode cX4_place 107 = .ok (.iconst 0, 1) := by decide +kernel
theorem dX4_place_108 : decode cX4_place 108 = .ok (.invokevirtual 119, 3) := by decide +kernel
theorem dX4_place_111 : decode cX4_place 111 = .ok (.iconst 1, 1) := by decide +kernel
theorem dX4_place_112 : decode cX4_place 112 = .ok (.if_icmp .ne 7, 3) := by decide +kernel
theorem dX4_place_115 : decode cX4_place 115 = .ok (.iconst 1, 1) := by decide +kernel
theorem dX4_place_116 : decode cX4_place 116 = .ok (.goto 4, 3) := by decide +kernel
theorem dX4_place_119 : decode cX4_place 119 = .ok (.iconst 0, 1) := by decide +kernel
theorem dX4_place_120 : decode cX4_place 120 = .ok (.ireturn, 1) := by decide +kernel
theorem dX4_coordinate_0 : decode cX4_coordinate 0 = .ok (.aload_n 0, 1) := by decide +kernel
theorem dX4_coordinate_1 : decode cX4_coordinate 1 = .ok (.iload_n 1, 1) := by decide +kernel
theorem dX4_coordinate_2 : decode cX4_coordinate 2 = .ok (.invokevirtual 95, 3) := by decide +kernel
theorem dX4_coordinate_5 : decode cX4_coordinate 5 = .ok (.ifCond .ne 9, 3) := by decide +kernel
theorem dX4_coordinate_8 : decode cX4_coordinate 8 = .ok (.aload_n 0, 1) := by decide +kernel
theorem dX4_coordinate_9 : decode cX4_coordinate 9 = .ok (.iconst 1, 1) := by decide +kernel
theorem dX4_coordinate_10 : decode cX4_coordinate 10 = .ok (.invokevirtual 113, 3) := by decide +kernel
theorem dX4_coordinate_13 : decode cX4_coordinate 13 = .ok (.ireturn, 1) := by decide +kernel
theorem dX4_coordinate_14 : decode cX4_coordinate 14 = .ok (.iload_n 2, 1) := by decide +kernel
theorem dX4_coordinate_15 : decode cX4_coordinate 15 = .ok (.iconst 0, 1) := by decide +kernel
theorem dX4_coordinate_16 : decode cX4_coordinate 16 = .ok (.iconst 1, 1) := by decide +kernel
theorem dX4_coordinate_17 : decode cX4_coordinate 17 = .ok (.invokestatic 91, 3) := by decide +kernel
theorem dX4_coordinate_20 : decode cX4_coordinate 20 = .ok (.ifCond .eq 24, 3) := by decide +kernel
theorem dX4_coordinate_23 : decode cX4_coordinate 23 = .ok (.aload_n 0, 1) := by decide +kernel
theorem dX4_coordinate_24 : decode cX4_coordinate 24 = .ok (.aload_n 0, 1) := by decide +kernel
theorem dX4_coordinate_25 : decode cX4_coordinate 25 = .ok (.getfield 7, 3) := by decide +kernel
theorem dX4_coordinate_28 : decode cX4_coordinate 28 = .ok (.sipush 227, 3) := by decide +kernel
theorem dX4_coordinate_31 : decode cX4_coordinate 31 = .ok (.iconst 2, 1) := by decide +kernel
theorem dX4_coordinate_32 : decode cX4_coordinate 32 = .ok (.iload_n 1, 1) := by decide +kernel
theorem dX4_coordinate_33 : decode cX4_coordinate 33 = .ok (.imul, 1) := by decide +kernel
theorem dX4_coordinate_34 : decode cX4_coordinate 34 = .ok (.iadd, 1) := by decide +kernel
theorem dX4_coordinate_35 : decode cX4_coordinate 35 = .ok (.iload_n 2, 1) := by decide +kernel
theorem dX4_coordinate_36 : decode cX4_coordinate 36 = .ok (.iadd, 1) := by decide +kernel
theorem dX4_coordinate_37 : decode cX4_coordinate 37 = .ok (.iaload, 1) := by decide +kernel
theorem dX4_coordinate_38 : decode cX4_coordinate 38 = .ok (.invokevirtual 67, 3) := by decide +kernel
theorem dX4_coordinate_41 : decode cX4_coordinate 41 = .ok (.goto 8, 3) := by decide +kernel
theorem dX4_coordinate_44 : decode cX4_coordinate 44 = .ok (.aload_n 0, 1) := by decide +kernel
theorem dX4_coordinate_45 : decode cX4_coordinate 45 = .ok (.iconst 2, 1) := by decide +kernel
theorem dX4_coordinate_46 : decode cX4_coordinate 46 = .ok (.invokevirtual 113, 3) := by decide +kernel
theorem dX4_coordinate_49 : decode cX4_coordinate 49 = .ok (.ireturn, 1) := by decide +kernel
theorem dX4_isSeen_0 : decode cX4_isSeen 0 = .ok (.aload_n 0, 1) := by decide +kernel
theorem dX4_isSeen_1 : decode cX4_isSeen 1 = .ok (.aload_n 0, 1) := by decide +kernel
theorem dX4_isSeen_2 : decode cX4_isSeen 2 = .ok (.getfield 22, 3) := by decide +kernel
theorem dX4_isSeen_5 : decode cX4_isSeen 5 = .ok (.iconst 3, 1) := by decide +kernel
theorem dX4_isSeen_6 : decode cX4_isSeen 6 = .ok (.iload_n 1, 1) := by decide +kernel
theorem dX4_isSeen_7 : decode cX4_isSeen 7 = .ok (.imul, 1) := by decide +kernel
theorem dX4_isSeen_8 : decode cX4_isSeen 8 = .ok (.iaload, 1) := by decide +kernel
theorem dX4_isSeen_9 : decode cX4_isSeen 9 = .ok (.invokevirtual 211, 3) := by decide +kernel
theorem dX4_isSeen_12 : decode cX4_isSeen 12 = .ok (.ifCond .eq 41, 3) := by decide +kernel
theorem dX4_isSeen_15 : decode cX4_isSeen 15 = .ok (.aload_n 0, 1) := by decide +kernel
theorem dX4_isSeen_16 : decode cX4_isSeen 16 = .ok (.aload_n 0, 1) := by decide +kernel
theorem dX4_isSeen_17 : decode cX4_isSeen 17 = .ok (.getfield 22, 3) := by decide +kernel
theorem dX4_isSeen_20 : decode cX4_isSeen 20 = .ok (.iconst 3, 1) := by decide +kernel
theorem dX4_isSeen_21 : decode cX4_isSeen 21 = .ok (.iload_n 1, 1) := by decide +kernel
theorem dX4_isSeen_22 : decode cX4_isSeen 22 = .ok (.imul, 1) := by decide +kernel
theorem dX4_isSeen_23 : decode cX4_isSeen 23 = .ok (.iconst 1, 1) := by decide +kernel
theorem dX4_isSeen_24 : decode cX4_isSeen 24 = .ok (.iadd, 1) := by decide +kernel
theorem dX4_isSeen_25 : decode cX4_isSeen 25 = .ok (.iaload, 1) := by decide +kernel
theorem dX4_isSeen_26 : decode cX4_isSeen 26 = .ok (.invokevirtual 211, 3) := by decide +kernel
theorem dX4_isSeen_29 : decode cX4_isSeen 29 = .ok (.ifCond .eq 24, 3) := by decide +kernel
theorem dX4_isSeen_32 : decode cX4_isSeen 32 = .ok (.aload_n 0, 1) := by decide +kernel
theorem dX4_isSeen_33 : decode cX4_isSeen 33 = .ok (.aload_n 0, 1) := by decide +kernel
theorem dX4_isSeen_34 : decode cX4_isSeen 34 = .ok (.getfield 22, 3) := by decide +kernel
theorem dX4_isSeen_37 : decode cX4_isSeen 37 = .ok (.iconst 3, 1) := by decide +kernel
theorem dX4_isSeen_38 : decode cX4_isSeen 38 = .ok (.iload_n 1, 1) := by decide +kernel
theorem dX4_isSeen_39 : decode cX4_isSeen 39 = .ok (.imul, 1) := by decide +kernel
theorem dX4_isSeen_40 : decode cX4_isSeen 40 = .ok (.iconst 2, 1) := by decide +kernel
theorem dX4_isSeen_41 : decode cX4_isSeen 41 = .ok (.iadd, 1) := by decide +kernel
theorem dX4_isSeen_42 : decode cX4_isSeen 42 = .ok (.iaload, 1) := by decide +kernel
theorem dX4_isSeen_43 : decode cX4_isSeen 43 = .ok (.invokevirtual 211, 3) := by decide +kernel
theorem dX4_isSeen_46 : decode cX4_isSeen 46 = .ok (.ifCond .eq 7, 3) := by decide +kernel
theorem dX4_isSeen_49 : decode cX4_isSeen 49 = .ok (.iconst 1, 1) := by decide +kernel
theorem dX4_isSeen_50 : decode cX4_isSeen 50 = .ok (.goto 4, 3) := by decide +kernel
theorem dX4_isSeen_53 : decode cX4_isSeen 53 = .ok (.iconst 0, 1) := by decide +kernel
theorem dX4_isSeen_54 : decode cX4_isSeen 54 = .ok (.ireturn, 1) := by decide +kernel
theorem dX4_apart_0 : decode cX4_apart 0 = .ok (.aload_n 0, 1) := by decide +kernel
theorem dX4_apart_1 : decode cX4_apart 1 = .ok (.getfield 7, 3) := by decide +kernel
theorem dX4_apart_4 : decode cX4_apart 4 = .ok (.sipush 227, 3) := by decide +kernel
theorem dX4_apart_7 : decode cX4_apart 7 = .ok (.iconst 2, 1) := by decide +kernel
theorem dX4_apart_8 : decode cX4_apart 8 = .ok (.iload_n 2, 1) := by decide +kernel
theorem dX4_apart_9 : decode cX4_apart 9 = .ok (.imul, 1) := by decide +kernel
theorem dX4_apart_10 : decode cX4_apart 10 = .ok (.iadd, 1) := by decide +kernel
theorem dX4_apart_11 : decode cX4_apart 11 = .ok (.iload_n 3, 1) := by decide +kernel
theorem dX4_apart_12 : decode cX4_apart 12 = .ok (.iadd, 1) := by decide +kernel
theorem dX4_apart_13 : decode cX4_apart 13 = .ok (.iaload, 1) := by decide +kernel
theorem dX4_apart_14 : decode cX4_apart 14 = .ok (.aload_n 0, 1) := by decide +kernel
theorem dX4_apart_15 : decode cX4_apart 15 = .ok (.getfield 7, 3) := by decide +kernel
theorem dX4_apart_18 : decode cX4_apart 18 = .ok (.sipush 227, 3) := by decide +kernel
theorem dX4_apart_21 : decode cX4_apart 21 = .ok (.iconst 2, 1) := by decide +kernel
theorem dX4_apart_22 : decode cX4_apart 22 = .ok (.iload_n 1, 1) := by decide +kernel
theorem dX4_apart_23 : decode cX4_apart 23 = .ok (.imul, 1) := by decide +kernel
theorem dX4_apart_24 : decode cX4_apart 24 = .ok (.iadd, 1) := by decide +kernel
theorem dX4_apart_25 : decode cX4_apart 25 = .ok (.iload_n 3, 1) := by decide +kernel
theorem dX4_apart_26 : decode cX4_apart 26 = .ok (.iadd, 1) := by decide +kernel
theorem dX4_apart_27 : decode cX4_apart 27 = .ok (.iaload, 1) := by decide +kernel
theorem dX4_apart_28 : decode cX4_apart 28 = .ok (.isub, 1) := by decide +kernel
theorem dX4_apart_29 : decode cX4_apart 29 = .ok (.ireturn, 1) := by decide +kernel
theorem dX4_signSeen_0 : decode cX4_signSeen 0 = .ok (.aload_n 0, 1) := by decide +kernel
theorem dX4_signSeen_1 : decode cX4_signSeen 1 = .ok (.getfield 22, 3) := by decide +kernel
theorem dX4_signSeen_4 : decode cX4_signSeen 4 = .ok (.iconst 3, 1) := by decide +kernel
theorem dX4_signSeen_5 : decode cX4_signSeen 5 = .ok (.iload_n 1, 1) := by decide +kernel
theorem dX4_signSeen_6 : decode cX4_signSeen 6 = .ok (.imul, 1) := by decide +kernel
theorem dX4_signSeen_7 : decode cX4_signSeen 7 = .ok (.iaload, 1) := by decide +kernel
theorem dX4_signSeen_8 : decode cX4_signSeen 8 = .ok (.istore_n 2, 1) := by decide +kernel
theorem dX4_signSeen_9 : decode cX4_signSeen 9 = .ok (.aload_n 0, 1) := by decide +kernel
theorem dX4_signSeen_10 : decode cX4_signSeen 10 = .ok (.getfield 22, 3) := by decide +kernel
theorem dX4_signSeen_13 : decode cX4_signSeen 13 = .ok (.iconst 3, 1) := by decide +kernel
theorem dX4_signSeen_14 : decode cX4_signSeen 14 = .ok (.iload_n 1, 1) := by decide +kernel
theorem dX4_signSeen_15 : decode cX4_signSeen 15 = .ok (.imul, 1) := by decide +kernel
theorem dX4_signSeen_16 : decode cX4_signSeen 16 = .ok (.iconst 1, 1) := by decide +kernel
theorem dX4_signSeen_17 : decode cX4_signSeen 17 = .ok (.iadd, 1) := by decide +kernel
theorem dX4_signSeen_18 : decode cX4_signSeen 18 = .ok (.iaload, 1) := by decide +kernel
theorem dX4_signSeen_19 : decode cX4_signSeen 19 = .ok (.istore_n 3, 1) := by decide +kernel
theorem dX4_signSeen_20 : decode cX4_signSeen 20 = .ok (.aload_n 0, 1) := by decide +kernel
theorem dX4_signSeen_21 : decode cX4_signSeen 21 = .ok (.getfield 22, 3) := by decide +kernel
theorem dX4_signSeen_24 : decode cX4_signSeen 24 = .ok (.iconst 3, 1) := by decide +kernel
theorem dX4_signSeen_25 : decode cX4_signSeen 25 = .ok (.iload_n 1, 1) := by decide +kernel
theorem dX4_signSeen_26 : decode cX4_signSeen 26 = .ok (.imul, 1) := by decide +kernel
theorem dX4_signSeen_27 : decode cX4_signSeen 27 = .ok (.iconst 2, 1) := by decide +kernel
theorem dX4_signSeen_28 : decode cX4_signSeen 28 = .ok (.iadd, 1) := by decide +kernel
theorem dX4_signSeen_29 : decode cX4_signSeen 29 = .ok (.iaload, 1) := by decide +kernel
theorem dX4_signSeen_30 : decode cX4_signSeen 30 = .ok (.istore 4, 2) := by decide +kernel
theorem dX4_signSeen_32 : decode cX4_signSeen 32 = .ok (.aload_n 0, 1) := by decide +kernel
theorem dX4_signSeen_33 : decode cX4_signSeen 33 = .ok (.iload_n 2, 1) := by decide +kernel
theorem dX4_signSeen_34 : decode cX4_signSeen 34 = .ok (.iload_n 3, 1) := by decide +kernel
theorem dX4_signSeen_35 : decode cX4_signSeen 35 = .ok (.iconst 0, 1) := by decide +kernel
theorem dX4_signSeen_36 : decode cX4_signSeen 36 = .ok (.invokevirtual 214, 3) := by decide +kernel
theorem dX4_signSeen_39 : decode cX4_signSeen 39 = .ok (.aload_n 0, 1) := by decide +kernel
theorem dX4_signSeen_40 : decode cX4_signSeen 40 = .ok (.iload_n 2, 1) := by decide +kernel
theorem dX4_signSeen_41 : decode cX4_signSeen 41 = .ok (.iload 4, 2) := by decide +kernel
theorem dX4_signSeen_43 : decode cX4_signSeen 43 = .ok (.iconst 1, 1) := by decide +kernel
theorem dX4_signSeen_44 : decode cX4_signSeen 44 = .ok (.invokevirtual 214, 3) := by decide +kernel
theorem dX4_signSeen_47 : decode cX4_signSeen 47 = .ok (.imul, 1) := by decide +kernel
theorem dX4_signSeen_48 : decode cX4_signSeen 48 = .ok (.aload_n 0, 1) := by decide +kernel
theorem dX4_signSeen_49 : decode cX4_signSeen 49 = .ok (.iload_n 2, 1) := by decide +kernel
theorem dX4_signSeen_50 : decode cX4_signSeen 50 = .ok (.iload_n 3, 1) := by decide +kernel
theorem dX4_signSeen_51 : decode cX4_signSeen 51 = .ok (.iconst 1, 1) := by decide +kernel
theorem dX4_signSeen_52 : decode cX4_signSeen 52 = .ok (.invokevirtual 214, 3) := by decide +kernel
theorem dX4_signSeen_55 : decode cX4_signSeen 55 = .ok (.aload_n 0, 1) := by decide +kernel
theorem dX4_signSeen_56 : decode cX4_signSeen 56 = .ok (.iload_n 2, 1) := by decide +kernel
theorem dX4_signSeen_57 : decode cX4_signSeen 57 = .ok (.iload 4, 2) := by decide +kernel
theorem dX4_signSeen_59 : decode cX4_signSeen 59 = .ok (.iconst 0, 1) := by decide +kernel
theorem dX4_signSeen_60 : decode cX4_signSeen 60 = .ok (.invokevirtual 214, 3) := by decide +kernel
theorem dX4_signSeen_63 : decode cX4_signSeen 63 = .ok (.imul, 1) := by decide +kernel
theorem dX4_signSeen_64 : decode cX4_signSeen 64 = .ok (.isub, 1) := by decide +kernel
theorem dX4_signSeen_65 : decode cX4_signSeen 65 = .ok (.istore 5, 2) := by decide +kernel
theorem dX4_signSeen_67 : decode cX4_signSeen 67 = .ok (.iload 5, 2) := by decide +kernel
theorem dX4_signSeen_69 : decode cX4_signSeen 69 = .ok (.ifCond .le 7, 3) := by decide +kernel
theorem dX4_signSeen_72 : decode cX4_signSeen 72 = .ok (.iconst 1, 1) := by decide +kernel
theorem dX4_signSeen_73 : decode cX4_signSeen 73 = .ok (.goto 13, 3) := by decide +kernel
theorem dX4_signSeen_76 : decode cX4_signSeen 76 = .ok (.iload 5, 2) := by decide +kernel
theorem dX4_signSeen_78 : decode cX4_signSeen 78 = .ok (.ifCond .ge 7, 3) := by decide +kernel
theorem dX4_signSeen_81 : decode cX4_signSeen 81 = .ok (.iconst (-1), 1) := by decide +kernel
theorem dX4_signSeen_82 : decode cX4_signSeen 82 = .ok (.goto 4, 3) := by decide +kernel
theorem dX4_signSeen_85 : decode cX4_signSeen 85 = .ok (.iconst 0, 1) := by decide +kernel
theorem dX4_signSeen_86 : decode cX4_signSeen 86 = .ok (.ireturn, 1) := by decide +kernel
theorem dX4_read_0 : decode cX4_read 0 = .ok (.aload_n 0, 1) := by decide +kernel
theorem dX4_read_1 : decode cX4_read 1 = .ok (.invokevirtual 116, 3) := by decide +kernel
theorem dX4_read_4 : decode cX4_read 4 = .ok (.iconst 0, 1) := by decide +kernel
theorem dX4_read_5 : decode cX4_read 5 = .ok (.istore_n 1, 1) := by decide +kernel
theorem dX4_read_6 : decode cX4_read 6 = .ok (.iconst 0, 1) := by decide +kernel
theorem dX4_read_7 : decode cX4_read 7 = .ok (.istore_n 2, 1) := by decide +kernel
theorem dX4_read_8 : decode cX4_read 8 = .ok (.iload_n 2, 1) := by decide +kernel
theorem dX4_read_9 : decode cX4_read 9 = .ok (.aload_n 0, 1) := by decide +kernel
theorem dX4_read_10 : decode cX4_read 10 = .ok (.getfield 71, 3) := by decide +kernel
theorem dX4_read_13 : decode cX4_read 13 = .ok (.if_icmp .ge 30, 3) := by decide +kernel
theorem dX4_read_16 : decode cX4_read 16 = .ok (.aload_n 0, 1) := by decide +kernel
theorem dX4_read_17 : decode cX4_read 17 = .ok (.iload_n 2, 1) := by decide +kernel
theorem dX4_read_18 : decode cX4_read 18 = .ok (.invokevirtual 217, 3) := by decide +kernel
theorem dX4_read_21 : decode cX4_read 21 = .ok (.ifCond .eq 16, 3) := by decide +kernel
theorem dX4_read_24 : decode cX4_read 24 = .ok (.aload_n 0, 1) := by decide +kernel
theorem dX4_read_25 : decode cX4_read 25 = .ok (.iload_n 2, 1) := by decide +kernel
theorem dX4_read_26 : decode cX4_read 26 = .ok (.aload_n 0, 1) := by decide +kernel
theorem dX4_read_27 : decode cX4_read 27 = .ok (.iload_n 2, 1) := by decide +kernel
theorem dX4_read_28 : decode cX4_read 28 = .ok (.invokevirtual 220, 3) := by decide +kernel
theorem dX4_read_31 : decode cX4_read 31 = .ok (.invokevirtual 135, 3) := by decide +kernel
theorem dX4_read_34 : decode cX4_read 34 = .ok (.iinc 1 1, 3) := by decide +kernel
theorem dX4_read_37 : decode cX4_read 37 = .ok (.iinc 2 1, 3) := by decide +kernel
theorem dX4_read_40 : decode cX4_read 40 = .ok (.goto (-32), 3) := by decide +kernel
theorem dX4_read_43 : decode cX4_read 43 = .ok (.aload_n 0, 1) := by decide +kernel
theorem dX4_read_44 : decode cX4_read 44 = .ok (.iload_n 1, 1) := by decide +kernel
theorem dX4_read_45 : decode cX4_read 45 = .ok (.invokevirtual 119, 3) := by decide +kernel
theorem dX4_read_48 : decode cX4_read 48 = .ok (.ireturn, 1) := by decide +kernel
theorem dX4_wrong_0 : decode cX4_wrong 0 = .ok (.iconst 0, 1) := by decide +kernel
theorem dX4_wrong_1 : decode cX4_wrong 1 = .ok (.istore_n 1, 1) := by decide +kernel
theorem dX4_wrong_2 : decode cX4_wrong 2 = .ok (.iconst 0, 1) := by decide +kernel
theorem dX4_wrong_3 : decode cX4_wrong 3 = .ok (.istore_n 2, 1) := by decide +kernel
theorem dX4_wrong_4 : decode cX4_wrong 4 = .ok (.iload_n 2, 1) := by decide +kernel
theorem dX4_wrong_5 : decode cX4_wrong 5 = .ok (.aload_n 0, 1) := by decide +kernel
theorem dX4_wrong_6 : decode cX4_wrong 6 = .ok (.getfield 71, 3) := by decide +kernel
theorem dX4_wrong_9 : decode cX4_wrong 9 = .ok (.if_icmp .ge 50, 3) := by decide +kernel
theorem dX4_wrong_12 : decode cX4_wrong 12 = .ok (.iload_n 1, 1) := by decide +kernel
theorem dX4_wrong_13 : decode cX4_wrong 13 = .ok (.aload_n 0, 1) := by decide +kernel
theorem dX4_wrong_14 : decode cX4_wrong 14 = .ok (.iload_n 2, 1) := by decide +kernel
theorem dX4_wrong_15 : decode cX4_wrong 15 = .ok (.iconst 0, 1) := by decide +kernel
theorem dX4_wrong_16 : decode cX4_wrong 16 = .ok (.invokevirtual 106, 3) := by decide +kernel
theorem dX4_wrong_19 : decode cX4_wrong 19 = .ok (.bipush (-100), 2) := by decide +kernel
theorem dX4_wrong_21 : decode cX4_wrong 21 = .ok (.if_icmp .eq 29, 3) := by decide +kernel
theorem dX4_wrong_24 : decode cX4_wrong 24 = .ok (.aload_n 0, 1) := by decide +kernel
theorem dX4_wrong_25 : decode cX4_wrong 25 = .ok (.iload_n 2, 1) := by decide +kernel
theorem dX4_wrong_26 : decode cX4_wrong 26 = .ok (.invokevirtual 217, 3) := by decide +kernel
theorem dX4_wrong_29 : decode cX4_wrong 29 = .ok (.ifCond .eq 21, 3) := by decide +kernel
theorem dX4_wrong_32 : decode cX4_wrong 32 = .ok (.aload_n 0, 1) := by decide +kernel
theorem dX4_wrong_33 : decode cX4_wrong 33 = .ok (.iload_n 2, 1) := by decide +kernel
theorem dX4_wrong_34 : decode cX4_wrong 34 = .ok (.invokevirtual 220, 3) := by decide +kernel
theorem dX4_wrong_37 : decode cX4_wrong 37 = .ok (.aload_n 0, 1) := by decide +kernel
theorem dX4_wrong_38 : decode cX4_wrong 38 = .ok (.iload_n 2, 1) := by decide +kernel
theorem dX4_wrong_39 : decode cX4_wrong 39 = .ok (.iconst 0, 1) := by decide +kernel
theorem dX4_wrong_40 : decode cX4_wrong 40 = .ok (.invokevirtual 106, 3) := by decide +kernel
theorem dX4_wrong_43 : decode cX4_wrong 43 = .ok (.if_icmp .eq 7, 3) := by decide +kernel
theorem dX4_wrong_46 : decode cX4_wrong 46 = .ok (.iconst 1, 1) := by decide +kernel
theorem dX4_wrong_47 : decode cX4_wrong 47 = .ok (.goto 4, 3) := by decide +kernel
theorem dX4_wrong_50 : decode cX4_wrong 50 = .ok (.iconst 0, 1) := by decide +kernel
theorem dX4_wrong_51 : decode cX4_wrong 51 = .ok (.iadd, 1) := by decide +kernel
theorem dX4_wrong_52 : decode cX4_wrong 52 = .ok (.istore_n 1, 1) := by decide +kernel
theorem dX4_wrong_53 : decode cX4_wrong 53 = .ok (.iinc 2 1, 3) := by decide +kernel
theorem dX4_wrong_56 : decode cX4_wrong 56 = .ok (.goto (-52), 3) := by decide +kernel
theorem dX4_wrong_59 : decode cX4_wrong 59 = .ok (.iload_n 1, 1) := by decide +kernel
theorem dX4_wrong_60 : decode cX4_wrong 60 = .ok (.ireturn, 1) := by decide +kernel
theorem dX4_mismatches_0 : decode cX4_mismatches 0 = .ok (.aload_n 0, 1) := by decide +kernel
theorem dX4_mismatches_1 : decode cX4_mismatches 1 = .ok (.aload_n 0, 1) := by decide +kernel
theorem dX4_mismatches_2 : decode cX4_mismatches 2 = .ok (.invokevirtual 223, 3) := by decide +kernel
theorem dX4_mismatches_5 : decode cX4_mismatches 5 = .ok (.invokevirtual 67, 3) := by decide +kernel
theorem dX4_mismatches_8 : decode cX4_mismatches 8 = .ok (.ireturn, 1) := by decide +kernel
theorem dX4_scatter_0 : decode cX4_scatter 0 = .ok (.iload_n 1, 1) := by decide +kernel
theorem dX4_scatter_1 : decode cX4_scatter 1 = .ok (.iconst 0, 1) := by decide +kernel
theorem dX4_scatter_2 : decode cX4_scatter 2 = .ok (.ldc 226, 2) := by decide +kernel
theorem dX4_scatter_4 : decode cX4_scatter 4 = .ok (.invokestatic 91, 3) := by decide +kernel
theorem dX4_scatter_7 : decode cX4_scatter 7 = .ok (.ifCond .eq 23, 3) := by decide +kernel
theorem dX4_scatter_10 : decode cX4_scatter 10 = .ok (.iload_n 2, 1) := by decide +kernel
theorem dX4_scatter_11 : decode cX4_scatter 11 = .ok (.iconst 1, 1) := by decide +kernel
theorem dX4_scatter_12 : decode cX4_scatter 12 = .ok (.bipush 50, 2) := by decide +kernel
theorem dX4_scatter_14 : decode cX4_scatter 14 = .ok (.invokestatic 91, 3) := by decide +kernel
theorem dX4_scatter_17 : decode cX4_scatter 17 = .ok (.ifCond .eq 13, 3) := by decide +kernel
theorem dX4_scatter_20 : decode cX4_scatter 20 = .ok (.iload_n 3, 1) := by decide +kernel
theorem dX4_scatter_21 : decode cX4_scatter 21 = .ok (.iconst 1, 1) := by decide +kernel
theorem dX4_scatter_22 : decode cX4_scatter 22 = .ok (.bipush 50, 2) := by decide +kernel
theorem dX4_scatter_24 : decode cX4_scatter 24 = .ok (.invokestatic 91, 3) := by decide +kernel
theorem dX4_scatter_27 : decode cX4_scatter 27 = .ok (.ifCond .ne 9, 3) := by decide +kernel
theorem dX4_scatter_30 : decode cX4_scatter 30 = .ok (.aload_n 0, 1) := by decide +kernel
theorem dX4_scatter_31 : decode cX4_scatter 31 = .ok (.iconst 1, 1) := by decide +kernel
theorem dX4_scatter_32 : decode cX4_scatter 32 = .ok (.invokevirtual 113, 3) := by decide +kernel
theorem dX4_scatter_35 : decode cX4_scatter 35 = .ok (.ireturn, 1) := by decide +kernel
theorem dX4_scatter_36 : decode cX4_scatter 36 = .ok (.aload_n 0, 1) := by decide +kernel
theorem dX4_scatter_37 : decode cX4_scatter 37 = .ok (.invokevirtual 116, 3) := by decide +kernel
theorem dX4_scatter_40 : decode cX4_scatter 40 = .ok (.iload_n 1, 1) := by decide +kernel
theorem dX4_scatter_41 : decode cX4_scatter 41 = .ok (.i2l, 1) := by decide +kernel
theorem dX4_scatter_42 : decode cX4_scatter 42 = .ok (.lstore 4, 2) := by decide +kernel
theorem dX4_scatter_44 : decode cX4_scatter 44 = .ok (.bipush (-100), 2) := by decide +kernel
theorem dX4_scatter_46 : decode cX4_scatter 46 = .ok (.istore 6, 2) := by decide +kernel
theorem dX4_scatter_48 : decode cX4_scatter 48 = .ok (.iconst 0, 1) := by decide +kernel
theorem dX4_scatter_49 : decode cX4_scatter 49 = .ok (.istore 7, 2) := by decide +kernel
theorem dX4_scatter_51 : decode cX4_scatter 51 = .ok (.iload 7, 2) := by decide +kernel
theorem dX4_scatter_53 : decode cX4_scatter 53 = .ok (.iload_n 2, 1) := by decide +kernel
theorem dX4_scatter_54 : decode cX4_scatter 54 = .ok (.if_icmp .ge 166, 3) := by decide +kernel
theorem dX4_scatter_57 : decode cX4_scatter 57 = .ok (.iconst 0, 1) := by decide +kernel
theorem dX4_scatter_58 : decode cX4_scatter 58 = .ok (.istore 8, 2) := by decide +kernel
theorem dX4_scatter_60 : decode cX4_scatter 60 = .ok (.iload 8, 2) := by decide +kernel
theorem dX4_scatter_62 : decode cX4_scatter 62 = .ok (.iconst 2, 1) := by decide +kernel
theorem dX4_scatter_63 : decode cX4_scatter 63 = .ok (.aload_n 0, 1) := by decide +kernel
theorem dX4_scatter_64 : decode cX4_scatter 64 = .ok (.getfield 7, 3) := by decide +kernel
theorem dX4_scatter_67 : decode cX4_scatter 67 = .ok (.iconst 0, 1) := by decide +kernel
theorem dX4_scatter_68 : decode cX4_scatter 68 = .ok (.iaload, 1) := by decide +kernel
theorem dX4_scatter_69 : decode cX4_scatter 69 = .ok (.imul, 1) := by decide +kernel
theorem dX4_scatter_70 : decode cX4_scatter 70 = .ok (.if_icmp .ge 54, 3) := by decide +kernel
theorem dX4_scatter_73 : decode cX4_scatter 73 = .ok (.ldc2_w 227, 3) := by decide +kernel
theorem dX4_scatter_76 : decode cX4_scatter 76 = .ok (.lload 4, 2) := by decide +kernel
theorem dX4_scatter_78 : decode cX4_scatter 78 = .ok (.lmul, 1) := by decide +kernel
theorem dX4_scatter_79 : decode cX4_scatter 79 = .ok (.ldc2_w 229, 3) := by decide +kernel
theorem dX4_scatter_82 : decode cX4_scatter 82 = .ok (.ladd, 1) := by decide +kernel
theorem dX4_scatter_83 : decode cX4_scatter 83 = .ok (.ldc2_w 231, 3) := by decide +kernel
theorem dX4_scatter_86 : decode cX4_scatter 86 = .ok (.lrem, 1) := by decide +kernel
theorem dX4_scatter_87 : decode cX4_scatter 87 = .ok (.lstore 4, 2) := by decide +kernel
theorem dX4_scatter_89 : decode cX4_scatter 89 = .ok (.aload_n 0, 1) := by decide +kernel
theorem dX4_scatter_90 : decode cX4_scatter 90 = .ok (.getfield 7, 3) := by decide +kernel
theorem dX4_scatter_93 : decode cX4_scatter 93 = .ok (.sipush 227, 3) := by decide +kernel
theorem dX4_scatter_96 : decode cX4_scatter 96 = .ok (.iload 8, 2) := by decide +kernel
theorem dX4_scatter_98 : decode cX4_scatter 98 = .ok (.iadd, 1) := by decide +kernel
theorem dX4_scatter_99 : decode cX4_scatter 99 = .ok (.lload 4, 2) := by decide +kernel
theorem dX4_scatter_101 : decode cX4_scatter 101 = .ok (.ldc2_w 233, 3) := by decide +kernel
theorem dX4_scatter_104 : decode cX4_scatter 104 = .ok (.ldiv, 1) := by decide +kernel
theorem dX4_scatter_105 : decode cX4_scatter 105 = .ok (.ldc2_w 235, 3) := by decide +kernel
theorem dX4_scatter_108 : decode cX4_scatter 108 = .ok (.iload_n 3, 1) := by decide +kernel
theorem dX4_scatter_109 : decode cX4_scatter 109 = .ok (.i2l, 1) := by decide +kernel
theorem dX4_scatter_110 : decode cX4_scatter 110 = .ok (.lmul, 1) := by decide +kernel
theorem dX4_scatter_111 : decode cX4_scatter 111 = .ok (.lconst 1, 1) := by decide +kernel
theorem dX4_scatter_112 : decode cX4_scatter 112 = .ok (.ladd, 1) := by decide +kernel
theorem dX4_scatter_113 : decode cX4_scatter 113 = .ok (.lrem, 1) := by decide +kernel
theorem dX4_scatter_114 : decode cX4_scatter 114 = .ok (.l2i, 1) := by decide +kernel
theorem dX4_scatter_115 : decode cX4_scatter 115 = .ok (.iload_n 3, 1) := by decide +kernel
theorem dX4_scatter_116 : decode cX4_scatter 116 = .ok (.isub, 1) := by decide +kernel
theorem dX4_scatter_117 : decode cX4_scatter 117 = .ok (.iastore, 1) := by decide +kernel
theorem dX4_scatter_118 : decode cX4_scatter 118 = .ok (.iinc 8 1, 3) := by decide +kernel
theorem dX4_scatter_121 : decode cX4_scatter 121 = .ok (.goto (-61), 3) := by decide +kernel
theorem dX4_scatter_124 : decode cX4_scatter 124 = .ok (.aload_n 0, 1) := by decide +kernel
theorem dX4_scatter_125 : decode cX4_scatter 125 = .ok (.invokevirtual 223, 3) := by decide +kernel
theorem dX4_scatter_128 : decode cX4_scatter 128 = .ok (.istore 8, 2) := by decide +kernel
theorem dX4_scatter_130 : decode cX4_scatter 130 = .ok (.iload 6, 2) := by decide +kernel
theorem dX4_scatter_132 : decode cX4_scatter 132 = .ok (.bipush (-100), 2) := by decide +kernel
theorem dX4_scatter_134 : decode cX4_scatter 134 = .ok (.if_icmp .eq 10, 3) := by decide +kernel
theorem dX4_scatter_137 : decode cX4_scatter 137 = .ok (.iload 8, 2) := by decide +kernel
theorem dX4_scatter_139 : decode cX4_scatter 139 = .ok (.iload 6, 2) := by decide +kernel
theorem dX4_scatter_141 : decode cX4_scatter 141 = .ok (.if_icmp .ge 7, 3) := by decide +kernel
theorem dX4_scatter_144 : decode cX4_scatter 144 = .ok (.iconst 1, 1) := by decide +kernel
theorem dX4_scatter_145 : decode cX4_scatter 145 = .ok (.goto 4, 3) := by decide +kernel
theorem dX4_scatter_148 : decode cX4_scatter 148 = .ok (.iconst 0, 1) := by decide +kernel
theorem dX4_scatter_149 : decode cX4_scatter 149 = .ok (.istore 9, 2) := by decide +kernel
theorem dX4_scatter_151 : decode cX4_scatter 151 = .ok (.iload 9, 2) := by decide +kernel
theorem dX4_scatter_153 : decode cX4_scatter 153 = .ok (.ifCond .eq 8, 3) := by decide +kernel
theorem dX4_scatter_156 : decode cX4_scatter 156 = .ok (.iload 8, 2) := by decide +kernel
theorem dX4_scatter_158 : decode cX4_scatter 158 = .ok (.goto 5, 3) := by decide +kernel
theorem dX4_scatter_161 : decode cX4_scatter 161 = .ok (.iload 6, 2) := by decide +kernel
theorem dX4_scatter_163 : decode cX4_scatter 163 = .ok (.istore 6, 2) := by decide +kernel
theorem dX4_scatter_165 : decode cX4_scatter 165 = .ok (.iconst 0, 1) := by decide +kernel
theorem dX4_scatter_166 : decode cX4_scatter 166 = .ok (.istore 10, 2) := by decide +kernel
theorem dX4_scatter_168 : decode cX4_scatter 168 = .ok (.iload 10, 2) := by decide +kernel
theorem dX4_scatter_170 : decode cX4_scatter 170 = .ok (.bipush 16, 2) := by decide +kernel
theorem dX4_scatter_172 : decode cX4_scatter 172 = .ok (.if_icmp .ge 42, 3) := by decide +kernel
theorem dX4_scatter_175 : decode cX4_scatter 175 = .ok (.aload_n 0, 1) := by decide +kernel
theorem dX4_scatter_176 : decode cX4_scatter 176 = .ok (.getfield 50, 3) := by decide +kernel
theorem dX4_scatter_179 : decode cX4_scatter 179 = .ok (.iload 10, 2) := by decide +kernel
theorem dX4_scatter_181 : decode cX4_scatter 181 = .ok (.iload 9, 2) := by decide +kernel
theorem dX4_scatter_183 : decode cX4_scatter 183 = .ok (.ifCond .eq 17, 3) := by decide +kernel
theorem dX4_scatter_186 : decode cX4_scatter 186 = .ok (.aload_n 0, 1) := by decide +kernel
theorem dX4_scatter_187 : decode cX4_scatter 187 = .ok (.getfield 7, 3) := by decide +kernel
theorem dX4_scatter_190 : decode cX4_scatter 190 = .ok (.sipush 227, 3) := by decide +kernel
theorem dX4_scatter_193 : decode cX4_scatter 193 = .ok (.iload 10, 2) := by decide +kernel
theorem dX4_scatter_195 : decode cX4_scatter 195 = .ok (.iadd, 1) := by decide +kernel
theorem dX4_scatter_196 : decode cX4_scatter 196 = .ok (.iaload, 1) := by decide +kernel
theorem dX4_scatter_197 : decode cX4_scatter 197 = .ok (.goto 10, 3) := by decide +kernel
theorem dX4_scatter_200 : decode cX4_scatter 200 = .ok (.aload_n 0, 1) := by decide +kernel
theorem dX4_scatter_201 : decode cX4_scatter 201 = .ok (.getfield 50, 3) := by decide +kernel
theorem dX4_scatter_204 : decode cX4_scatter 204 = .ok (.iload 10, 2) := by decide +kernel
theorem dX4_scatter_206 : decode cX4_scatter 206 = .ok (.iaload, 1) := by decide +kernel
theorem dX4_scatter_207 : decode cX4_scatter 207 = .ok (.iastore, 1) := by decide +kernel
theorem dX4_scatter_208 : decode cX4_scatter 208 = .ok (.iinc 10 1, 3) := by decide +kernel
theorem dX4_scatter_211 : decode cX4_scatter 211 = .ok (.goto (-43), 3) := by decide +kernel
theorem dX4_scatter_214 : decode cX4_scatter 214 = .ok (.iinc 7 1, 3) := by decide +kernel
theorem dX4_scatter_217 : decode cX4_scatter 217 = .ok (.goto (-166), 3) := by decide +kernel
theorem dX4_scatter_220 : decode cX4_scatter 220 = .ok (.iconst 0, 1) := by decide +kernel
theorem dX4_scatter_221 : decode cX4_scatter 221 = .ok (.istore 7, 2) := by decide +kernel
theorem dX4_scatter_223 : decode cX4_scatter 223 = .ok (.iload 7, 2) := by decide +kernel
theorem dX4_scatter_225 : decode cX4_scatter 225 = .ok (.bipush 16, 2) := by decide +kernel
theorem dX4_scatter_227 : decode cX4_scatter 227 = .ok (.if_icmp .ge 27, 3) := by decide +kernel
theorem dX4_scatter_230 : decode cX4_scatter 230 = .ok (.aload_n 0, 1) := by decide +kernel
theorem dX4_scatter_231 : decode cX4_scatter 231 = .ok (.getfield 7, 3) := by decide +kernel
theorem dX4_scatter_234 : decode cX4_scatter 234 = .ok (.sipush 227, 3) := by decide +kernel
theorem dX4_scatter_237 : decode cX4_scatter 237 = .ok (.iload 7, 2) := by decide +kernel
theorem dX4_scatter_239 : decode cX4_scatter 239 = .ok (.iadd, 1) := by decide +kernel
theorem dX4_scatter_240 : decode cX4_scatter 240 = .ok (.aload_n 0, 1) := by decide +kernel
theorem dX4_scatter_241 : decode cX4_scatter 241 = .ok (.getfield 50, 3) := by decide +kernel
theorem dX4_scatter_244 : decode cX4_scatter 244 = .ok (.iload 7, 2) := by decide +kernel
theorem dX4_scatter_246 : decode cX4_scatter 246 = .ok (.iaload, 1) := by decide +kernel
theorem dX4_scatter_247 : decode cX4_scatter 247 = .ok (.iastore, 1) := by decide +kernel
theorem dX4_scatter_248 : decode cX4_scatter 248 = .ok (.iinc 7 1, 3) := by decide +kernel
theorem dX4_scatter_251 : decode cX4_scatter 251 = .ok (.goto (-28), 3) := by decide +kernel
theorem dX4_scatter_254 : decode cX4_scatter 254 = .ok (.aload_n 0, 1) := by decide +kernel
theorem dX4_scatter_255 : decode cX4_scatter 255 = .ok (.iload 6, 2) := by decide +kernel
theorem dX4_scatter_257 : decode cX4_scatter 257 = .ok (.invokevirtual 119, 3) := by decide +kernel
theorem dX4_scatter_260 : decode cX4_scatter 260 = .ok (.ireturn, 1) := by decide +kernel
theorem dX4_type_0 : decode cX4_type 0 = .ok (.iload_n 1, 1) := by decide +kernel
theorem dX4_type_1 : decode cX4_type 1 = .ok (.iconst 0, 1) := by decide +kernel
theorem dX4_type_2 : decode cX4_type 2 = .ok (.bipush 127, 2) := by decide +kernel
theorem dX4_type_4 : decode cX4_type 4 = .ok (.invokestatic 91, 3) := by decide +kernel
theorem dX4_type_7 : decode cX4_type 7 = .ok (.ifCond .ne 9, 3) := by decide +kernel
theorem dX4_type_10 : decode cX4_type 10 = .ok (.aload_n 0, 1) := by decide +kernel
theorem dX4_type_11 : decode cX4_type 11 = .ok (.iconst 1, 1) := by decide +kernel
theorem dX4_type_12 : decode cX4_type 12 = .ok (.invokevirtual 113, 3) := by decide +kernel
theorem dX4_type_15 : decode cX4_type 15 = .ok (.ireturn, 1) := by decide +kernel
theorem dX4_type_16 : decode cX4_type 16 = .ok (.aload_n 0, 1) := by decide +kernel
theorem dX4_type_17 : decode cX4_type 17 = .ok (.getfield 237, 3) := by decide +kernel
theorem dX4_type_20 : decode cX4_type 20 = .ok (.bipush 120, 2) := by decide +kernel
theorem dX4_type_22 : decode cX4_type 22 = .ok (.if_icmp .ne 9, 3) := by decide +kernel
theorem dX4_type_25 : decode cX4_type 25 = .ok (.aload_n 0, 1) := by decide +kernel
theorem dX4_type_26 : decode cX4_type 26 = .ok (.iconst 2, 1) := by decide +kernel
theorem dX4_type_27 : decode cX4_type 27 = .ok (.invokevirtual 113, 3) := by decide +kernel
theorem dX4_type_30 : decode cX4_type 30 = .ok (.ireturn, 1) := by decide +kernel
theorem dX4_type_31 : decode cX4_type 31 = .ok (.aload_n 0, 1) := by decide +kernel
theorem dX4_type_32 : decode cX4_type 32 = .ok (.getfield 19, 3) := by decide +kernel
theorem dX4_type_35 : decode cX4_type 35 = .ok (.aload_n 0, 1) := by decide +kernel
theorem dX4_type_36 : decode cX4_type 36 = .ok (.getfield 237, 3) := by decide +kernel
theorem dX4_type_39 : decode cX4_type 39 = .ok (.iload_n 1, 1) := by decide +kernel
theorem dX4_type_40 : decode cX4_type 40 = .ok (.iastore, 1) := by decide +kernel
theorem dX4_type_41 : decode cX4_type 41 = .ok (.aload_n 0, 1) := by decide +kernel
theorem dX4_type_42 : decode cX4_type 42 = .ok (.dup, 1) := by decide +kernel
theorem dX4_type_43 : decode cX4_type 43 = .ok (.getfield 237, 3) := by decide +kernel
theorem dX4_type_46 : decode cX4_type 46 = .ok (.iconst 1, 1) := by decide +kernel
theorem dX4_type_47 : decode cX4_type 47 = .ok (.iadd, 1) := by decide +kernel
theorem dX4_type_48 : decode cX4_type 48 = .ok (.putfield 237, 3) := by decide +kernel
theorem dX4_type_51 : decode cX4_type 51 = .ok (.aload_n 0, 1) := by decide +kernel
theorem dX4_type_52 : decode cX4_type 52 = .ok (.aload_n 0, 1) := by decide +kernel
theorem dX4_type_53 : decode cX4_type 53 = .ok (.getfield 237, 3) := by decide +kernel
theorem dX4_type_56 : decode cX4_type 56 = .ok (.invokevirtual 67, 3) := by decide +kernel
theorem dX4_type_59 : decode cX4_type 59 = .ok (.ireturn, 1) := by decide +kernel
theorem dX4_clearScript_0 : decode cX4_clearScript 0 = .ok (.aload_n 0, 1) := by decide +kernel
theorem dX4_clearScript_1 : decode cX4_clearScript 1 = .ok (.getfield 237, 3) := by decide +kernel
theorem dX4_clearScript_4 : decode cX4_clearScript 4 = .ok (.istore_n 1, 1) := by decide +kernel
theorem dX4_clearScript_5 : decode cX4_clearScript 5 = .ok (.aload_n 0, 1) := by decide +kernel
theorem dX4_clearScript_6 : decode cX4_clearScript 6 = .ok (.iconst 0, 1) := by decide +kernel
theorem dX4_clearScript_7 : decode cX4_clearScript 7 = .ok (.putfield 237, 3) := by decide +kernel
theorem dX4_clearScript_10 : decode cX4_clearScript 10 = .ok (.aload_n 0, 1) := by decide +kernel
theorem dX4_clearScript_11 : decode cX4_clearScript 11 = .ok (.iload_n 1, 1) := by decide +kernel
theorem dX4_clearScript_12 : decode cX4_clearScript 12 = .ok (.invokevirtual 67, 3) := by decide +kernel
theorem dX4_clearScript_15 : decode cX4_clearScript 15 = .ok (.ireturn, 1) := by decide +kernel
theorem dX4_isAt_0 : decode cX4_isAt 0 = .ok (.aload_n 0, 1) := by decide +kernel
theorem dX4_isAt_1 : decode cX4_isAt 1 = .ok (.getfield 240, 3) := by decide +kernel
theorem dX4_isAt_4 : decode cX4_isAt 4 = .ok (.aload_n 0, 1) := by decide +kernel
theorem dX4_isAt_5 : decode cX4_isAt 5 = .ok (.getfield 237, 3) := by decide +kernel
theorem dX4_isAt_8 : decode cX4_isAt 8 = .ok (.if_icmp .ge 24, 3) := by decide +kernel
theorem dX4_isAt_11 : decode cX4_isAt 11 = .ok (.aload_n 0, 1) := by decide +kernel
theorem dX4_isAt_12 : decode cX4_isAt 12 = .ok (.getfield 19, 3) := by decide +kernel
theorem dX4_isAt_15 : decode cX4_isAt 15 = .ok (.aload_n 0, 1) := by decide +kernel
theorem dX4_isAt_16 : decode cX4_isAt 16 = .ok (.getfield 240, 3) := by decide +kernel
theorem dX4_isAt_19 : decode cX4_isAt 19 = .ok (.iaload, 1) := by decide +kernel
theorem dX4_isAt_20 : decode cX4_isAt 20 = .ok (.iload_n 1, 1) := by decide +kernel
theorem dX4_isAt_21 : decode cX4_isAt 21 = .ok (.iload_n 2, 1) := by decide +kernel
theorem dX4_isAt_22 : decode cX4_isAt 22 = .ok (.invokestatic 91, 3) := by decide +kernel
theorem dX4_isAt_25 : decode cX4_isAt 25 = .ok (.ifCond .eq 7, 3) := by decide +kernel
theorem dX4_isAt_28 : decode cX4_isAt 28 = .ok (.iconst 1, 1) := by decide +kernel
theorem dX4_isAt_29 : decode cX4_isAt 29 = .ok (.goto 4, 3) := by decide +kernel
theorem dX4_isAt_32 : decode cX4_isAt 32 = .ok (.iconst 0, 1) := by decide +kernel
theorem dX4_isAt_33 : decode cX4_isAt 33 = .ok (.ireturn, 1) := by decide +kernel
theorem dX4_skips_0 : decode cX4_skips 0 = .ok (.aload_n 0, 1) := by decide +kernel
theorem dX4_skips_1 : decode cX4_skips 1 = .ok (.getfield 240, 3) := by decide +kernel
theorem dX4_skips_4 : decode cX4_skips 4 = .ok (.istore_n 1, 1) := by decide +kernel
theorem dX4_skips_5 : decode cX4_skips 5 = .ok (.aload_n 0, 1) := by decide +kernel
theorem dX4_skips_6 : decode cX4_skips 6 = .ok (.bipush 32, 2) := by decide +kernel
theorem dX4_skips_8 : decode cX4_skips 8 = .ok (.bipush 32, 2) := by decide +kernel
theorem dX4_skips_10 : decode cX4_skips 10 = .ok (.invokevirtual 243, 3) := by decide +kernel
theorem dX4_skips_13 : decode cX4_skips 13 = .ok (.ifCond .eq 16, 3) := by decide +kernel
theorem dX4_skips_16 : decode cX4_skips 16 = .ok (.aload_n 0, 1) := by decide +kernel
theorem dX4_skips_17 : decode cX4_skips 17 = .ok (.dup, 1) := by decide +kernel
theorem dX4_skips_18 : decode cX4_skips 18 = .ok (.getfield 240, 3) := by decide +kernel
theorem dX4_skips_21 : decode cX4_skips 21 = .ok (.iconst 1, 1) := by decide +kernel
theorem dX4_skips_22 : decode cX4_skips 22 = .ok (.iadd, 1) := by decide +kernel
theorem dX4_skips_23 : decode cX4_skips 23 = .ok (.putfield 240, 3) := by decide +kernel
theorem dX4_skips_26 : decode cX4_skips 26 = .ok (.goto (-21), 3) := by decide +kernel
theorem dX4_skips_29 : decode cX4_skips 29 = .ok (.aload_n 0, 1) := by decide +kernel
theorem dX4_skips_30 : decode cX4_skips 30 = .ok (.getfield 240, 3) := by decide +kernel
theorem dX4_skips_33 : decode cX4_skips 33 = .ok (.iload_n 1, 1) := by decide +kernel
theorem dX4_skips_34 : decode cX4_skips 34 = .ok (.if_icmp .le 7, 3) := by decide +kernel
theorem dX4_skips_37 : decode cX4_skips 37 = .ok (.iconst 1, 1) := by decide +kernel
theorem dX4_skips_38 : decode cX4_skips 38 = .ok (.goto 4, 3) := by decide +kernel
theorem dX4_skips_41 : decode cX4_skips 41 = .ok (.iconst 0, 1) := by decide +kernel
theorem dX4_skips_42 : decode cX4_skips 42 = .ok (.ireturn, 1) := by decide +kernel
theorem dX4_wordOf_0 : decode cX4_wordOf 0 = .ok (.iload_n 2, 1) := by decide +kernel
theorem dX4_wordOf_1 : decode cX4_wordOf 1 = .ok (.iconst 4, 1) := by decide +kernel
theorem dX4_wordOf_2 : decode cX4_wordOf 2 = .ok (.if_icmp .ne 41, 3) := by decide +kernel
theorem dX4_wordOf_5 : decode cX4_wordOf 5 = .ok (.lload_n 0, 1) := by decide +kernel
theorem dX4_wordOf_6 : decode cX4_wordOf 6 = .ok (.ldc2_w 247, 3) := by decide +kernel
theorem dX4_wordOf_9 : decode cX4_wordOf 9 = .ok (.lcmp, 1) := by decide +kernel
theorem dX4_wordOf_10 : decode cX4_wordOf 10 = .ok (.ifCond .ne 7, 3) := by decide +kernel
theorem dX4_wordOf_13 : decode cX4_wordOf 13 = .ok (.iconst 1, 1) := by decide +kernel
theorem dX4_wordOf_14 : decode cX4_wordOf 14 = .ok (.goto 28, 3) := by decide +kernel
theorem dX4_wordOf_17 : decode cX4_wordOf 17 = .ok (.lload_n 0, 1) := by decide +kernel
theorem dX4_wordOf_18 : decode cX4_wordOf 18 = .ok (.ldc2_w 249, 3) := by decide +kernel
theorem dX4_wordOf_21 : decode cX4_wordOf 21 = .ok (.lcmp, 1) := by decide +kernel
theorem dX4_wordOf_22 : decode cX4_wordOf 22 = .ok (.ifCond .ne 7, 3) := by decide +kernel
theorem dX4_wordOf_25 : decode cX4_wordOf 25 = .ok (.iconst 3, 1) := by decide +kernel
theorem dX4_wordOf_26 : decode cX4_wordOf 26 = .ok (.goto 16, 3) := by decide +kernel
theorem dX4_wordOf_29 : decode cX4_wordOf 29 = .ok (.lload_n 0, 1) := by decide +kernel
theorem dX4_wordOf_30 : decode cX4_wordOf 30 = .ok (.ldc2_w 251, 3) := by decide +kernel
theorem dX4_wordOf_33 : decode cX4_wordOf 33 = .ok (.lcmp, 1) := by decide +kernel
theorem dX4_wordOf_34 : decode cX4_wordOf 34 = .ok (.ifCond .ne 7, 3) := by decide +kernel
theorem dX4_wordOf_37 : decode cX4_wordOf 37 = .ok (.iconst 4, 1) := by decide +kernel
theorem dX4_wordOf_38 : decode cX4_wordOf 38 = .ok (.goto 4, 3) := by decide +kernel
theorem dX4_wordOf_41 : decode cX4_wordOf 41 = .ok (.iconst 0, 1) := by decide +kernel
theorem dX4_wordOf_42 : decode cX4_wordOf 42 = .ok (.ireturn, 1) := by decide +kernel
theorem dX4_wordOf_43 : decode cX4_wordOf 43 = .ok (.iload_n 2, 1) := by decide +kernel
theorem dX4_wordOf_44 : decode cX4_wordOf 44 = .ok (.iconst 5, 1) := by decide +kernel
theorem dX4_wordOf_45 : decode cX4_wordOf 45 = .ok (.if_icmp .ne 17, 3) := by decide +kernel
theorem dX4_wordOf_48 : decode cX4_wordOf 48 = .ok (.lload_n 0, 1) := by decide +kernel
theorem dX4_wordOf_49 : decode cX4_wordOf 49 = .ok (.ldc2_w 253, 3) := by decide +kernel
theorem dX4_wordOf_52 : decode cX4_wordOf 52 = .ok (.lcmp, 1) := by decide +kernel
theorem dX4_wordOf_53 : decode cX4_wordOf 53 = .ok (.ifCond .ne 7, 3) := by decide +kernel
theorem dX4_wordOf_56 : decode cX4_wordOf 56 = .ok (.iconst 2, 1) := by decide +kernel
theorem dX4_wordOf_57 : decode cX4_wordOf 57 = .ok (.goto 4, 3) := by decide +kernel
theorem dX4_wordOf_60 : decode cX4_wordOf 60 = .ok (.iconst 0, 1) := by decide +kernel
theorem dX4_wordOf_61 : decode cX4_wordOf 61 = .ok (.ireturn, 1) := by decide +kernel
theorem dX4_wordOf_62 : decode cX4_wordOf 62 = .ok (.iload_n 2, 1) := by decide +kernel
theorem dX4_wordOf_63 : decode cX4_wordOf 63 = .ok (.bipush 6, 2) := by decide +kernel
theorem dX4_wordOf_65 : decode cX4_wordOf 65 = .ok (.if_icmp .eq 7, 3) := by decide +kernel
theorem dX4_wordOf_68 : decode cX4_wordOf 68 = .ok (.iconst 0, 1) := by decide +kernel
theorem dX4_wordOf_69 : decode cX4_wordOf 69 = .ok (.goto 29, 3) := by decide +kernel
theorem dX4_wordOf_72 : decode cX4_wordOf 72 = .ok (.lload_n 0, 1) := by decide +kernel
theorem dX4_wordOf_73 : decode cX4_wordOf 73 = .ok (.ldc2_w 255, 3) := by decide +kernel
theorem dX4_wordOf_76 : decode cX4_wordOf 76 = .ok (.lcmp, 1) := by decide +kernel
theorem dX4_wordOf_77 : decode cX4_wordOf 77 = .ok (.ifCond .ne 7, 3) := by decide +kernel
theorem dX4_wordOf_80 : decode cX4_wordOf 80 = .ok (.iconst 5, 1) := by decide +kernel
theorem dX4_wordOf_81 : decode cX4_wordOf 81 = .ok (.goto 17, 3) := by decide +kernel
theorem dX4_wordOf_84 : decode cX4_wordOf 84 = .ok (.lload_n 0, 1) := by decide +kernel
theorem dX4_wordOf_85 : decode cX4_wordOf 85 = .ok (.ldc2_w 257, 3) := by decide +kernel
theorem dX4_wordOf_88 : decode cX4_wordOf 88 = .ok (.lcmp, 1) := by decide +kernel
theorem dX4_wordOf_89 : decode cX4_wordOf 89 = .ok (.ifCond .ne 8, 3) := by decide +kernel
theorem dX4_wordOf_92 : decode cX4_wordOf 92 = .ok (.bipush 6, 2) := by decide +kernel
theorem dX4_wordOf_94 : decode cX4_wordOf 94 = .ok (.goto 4, 3) := by decide +kernel
theorem dX4_wordOf_97 : decode cX4_wordOf 97 = .ok (.iconst 0, 1) := by decide +kernel
theorem dX4_wordOf_98 : decode cX4_wordOf 98 = .ok (.ireturn, 1) := by decide +kernel
theorem dX4_isCommand_0 : decode cX4_isCommand 0 = .ok (.aload_n 0, 1) := by decide +kernel
theorem dX4_isCommand_1 : decode cX4_isCommand 1 = .ok (.getfield 240, 3) := by decide +kernel
theorem dX4_isCommand_4 : decode cX4_isCommand 4 = .ok (.istore_n 1, 1) := by decide +kernel
theorem dX4_isCommand_5 : decode cX4_isCommand 5 = .ok (.lconst 0, 1) := by decide +kernel
theorem dX4_isCommand_6 : decode cX4_isCommand 6 = .ok (.lstore_n 2, 1) := by decide +kernel
theorem dX4_isCommand_7 : decode cX4_isCommand 7 = .ok (.aload_n 0, 1) := by decide +kernel
theorem dX4_isCommand_8 : decode cX4_isCommand 8 = .ok (.bipush 97, 2) := by decide +kernel
theorem dX4_isCommand_10 : decode cX4_isCommand 10 = .ok (.bipush 122, 2) := by decide +kernel
theorem dX4_isCommand_12 : decode cX4_isCommand 12 = .ok (.invokevirtual 243, 3) := by decide +kernel
theorem dX4_isCommand_15 : decode cX4_isCommand 15 = .ok (.ifCond .eq 32, 3) := by decide +kernel
theorem dX4_isCommand_18 : decode cX4_isCommand 18 = .ok (.lload_n 2, 1) := by decide +kernel
theorem dX4_isCommand_19 : decode cX4_isCommand 19 = .ok (.bipush 8, 2) := by decide +kernel
theorem dX4_isCommand_21 : decode cX4_isCommand 21 = .ok (.lshl, 1) := by decide +kernel
theorem dX4_isCommand_22 : decode cX4_isCommand 22 = .ok (.aload_n 0, 1) := by decide +kernel
theorem dX4_isCommand_23 : decode cX4_isCommand 23 = .ok (.getfield 19, 3) := by decide +kernel
theorem dX4_isCommand_26 : decode cX4_isCommand 26 = .ok (.aload_n 0, 1) := by decide +kernel
theorem dX4_isCommand_27 : decode cX4_isCommand 27 = .ok (.getfield 240, 3) := by decide +kernel
theorem dX4_isCommand_30 : decode cX4_isCommand 30 = .ok (.iaload, 1) := by decide +kernel
theorem dX4_isCommand_31 : decode cX4_isCommand 31 = .ok (.i2l, 1) := by decide +kernel
theorem dX4_isCommand_32 : decode cX4_isCommand 32 = .ok (.lor, 1) := by decide +kernel
theorem dX4_isCommand_33 : decode cX4_isCommand 33 = .ok (.lstore_n 2, 1) := by decide +kernel
theorem dX4_isCommand_34 : decode cX4_isCommand 34 = .ok (.aload_n 0, 1) := by decide +kernel
theorem dX4_isCommand_35 : decode cX4_isCommand 35 = .ok (.dup, 1) := by decide +kernel
theorem dX4_isCommand_36 : decode cX4_isCommand 36 = .ok (.getfield 240, 3) := by decide +kernel
theorem dX4_isCommand_39 : decode cX4_isCommand 39 = .ok (.iconst 1, 1) := by decide +kernel
theorem dX4_isCommand_40 : decode cX4_isCommand 40 = .ok (.iadd, 1) := by decide +kernel
theorem dX4_isCommand_41 : decode cX4_isCommand 41 = .ok (.putfield 240, 3) := by decide +kernel
theorem dX4_isCommand_44 : decode cX4_isCommand 44 = .ok (.goto (-37), 3) := by decide +kernel
theorem dX4_isCommand_47 : decode cX4_isCommand 47 = .ok (.aload_n 0, 1) := by decide +kernel
theorem dX4_isCommand_48 : decode cX4_isCommand 48 = .ok (.lload_n 2, 1) := by decide +kernel
theorem dX4_isCommand_49 : decode cX4_isCommand 49 = .ok (.aload_n 0, 1) := by decide +kernel
theorem dX4_isCommand_50 : decode cX4_isCommand 50 = .ok (.getfield 240, 3) := by decide +kernel
theorem dX4_isCommand_53 : decode cX4_isCommand 53 = .ok (.iload_n 1, 1) := by decide +kernel
theorem dX4_isCommand_54 : decode cX4_isCommand 54 = .ok (.isub, 1) := by decide +kernel
theorem dX4_isCommand_55 : decode cX4_isCommand 55 = .ok (.invokestatic 259, 3) := by decide +kernel
theorem dX4_isCommand_58 : decode cX4_isCommand 58 = .ok (.putfield 263, 3) := by decide +kernel
theorem dX4_isCommand_61 : decode cX4_isCommand 61 = .ok (.aload_n 0, 1) := by decide +kernel
theorem dX4_isCommand_62 : decode cX4_isCommand 62 = .ok (.getfield 263, 3) := by decide +kernel
theorem dX4_isCommand_65 : decode cX4_isCommand 65 = .ok (.ifCond .ne 10, 3) := by decide +kernel
theorem dX4_isCommand_68 : decode cX4_isCommand 68 = .ok (.aload_n 0, 1) := by decide +kernel
theorem dX4_isCommand_69 : decode cX4_isCommand 69 = .ok (.iload_n 1, 1) := by decide +kernel
theorem dX4_isCommand_70 : decode cX4_isCommand 70 = .ok (.putfield 240, 3) := by decide +kernel
theorem dX4_isCommand_73 : decode cX4_isCommand 73 = .ok (.iconst 0, 1) := by decide +kernel
theorem dX4_isCommand_74 : decode cX4_isCommand 74 = .ok (.ireturn, 1) := by decide +kernel
theorem dX4_isCommand_75 : decode cX4_isCommand 75 = .ok (.aload_n 0, 1) := by decide +kernel
theorem dX4_isCommand_76 : decode cX4_isCommand 76 = .ok (.getfield 263, 3) := by decide +kernel
theorem dX4_isCommand_79 : decode cX4_isCommand 79 = .ok (.iconst 5, 1) := by decide +kernel
theorem dX4_isCommand_80 : decode cX4_isCommand 80 = .ok (.if_icmp .ge 12, 3) := by decide +kernel
theorem dX4_isCommand_83 : decode cX4_isCommand 83 = .ok (.aload_n 0, 1) := by decide +kernel
theorem dX4_isCommand_84 : decode cX4_isCommand 84 = .ok (.invokevirtual 266, 3) := by decide +kernel
theorem dX4_isCommand_87 : decode cX4_isCommand 87 = .ok (.ifCond .ne 5, 3) := by decide +kernel
theorem dX4_isCommand_90 : decode cX4_isCommand 90 = .ok (.iconst 0, 1) := by decide +kernel
theorem dX4_isCommand_91 : decode cX4_isCommand 91 = .ok (.ireturn, 1) := by decide +kernel
theorem dX4_isCommand_92 : decode cX4_isCommand 92 = .ok (.aload_n 0, 1) := by decide +kernel
theorem dX4_isCommand_93 : decode cX4_isCommand 93 = .ok (.invokevirtual 270, 3) := by decide +kernel
theorem dX4_isCommand_96 : decode cX4_isCommand 96 = .ok (.istore 4, 2) := by decide +kernel
theorem dX4_isCommand_98 : decode cX4_isCommand 98 = .ok (.aload_n 0, 1) := by decide +kernel
theorem dX4_isCommand_99 : decode cX4_isCommand 99 = .ok (.bipush 59, 2) := by decide +kernel
theorem dX4_isCommand_101 : decode cX4_isCommand 101 = .ok (.bipush 59, 2) := by decide +kernel
theorem dX4_isCommand_103 : decode cX4_isCommand 103 = .ok (.invokevirtual 243, 3) := by decide +kernel
theorem dX4_isCommand_106 : decode cX4_isCommand 106 = .ok (.ifCond .ne 5, 3) := by decide +kernel
theorem dX4_isCommand_109 : decode cX4_isCommand 109 = .ok (.iconst 0, 1) := by decide +kernel
theorem dX4_isCommand_110 : decode cX4_isCommand 110 = .ok (.ireturn, 1) := by decide +kernel
theorem dX4_isCommand_111 : decode cX4_isCommand 111 = .ok (.aload_n 0, 1) := by decide +kernel
theorem dX4_isCommand_112 : decode cX4_isCommand 112 = .ok (.dup, 1) := by decide +kernel
theorem dX4_isCommand_113 : decode cX4_isCommand 113 = .ok (.getfield 240, 3) := by decide +kernel
theorem dX4_isCommand_116 : decode cX4_isCommand 116 = .ok (.iconst 1, 1) := by decide +kernel
theorem dX4_isCommand_117 : decode cX4_isCommand 117 = .ok (.iadd, 1) := by decide +kernel
theorem dX4_isCommand_118 : decode cX4_isCommand 118 = .ok (.putfield 240, 3) := by decide +kernel
theorem dX4_isCommand_121 : decode cX4_isCommand 121 = .ok (.iconst 1, 1) := by decide +kernel
theorem dX4_isCommand_122 : decode cX4_isCommand 122 = .ok (.ireturn, 1) := by decide +kernel
theorem dX4_areNames_0 : decode cX4_areNames 0 = .ok (.aload_n 0, 1) := by decide +kernel
theorem dX4_areNames_1 : decode cX4_areNames 1 = .ok (.invokevirtual 270, 3) := by decide +kernel
theorem dX4_areNames_4 : decode cX4_areNames 4 = .ok (.ifCond .ne 5, 3) := by decide +kernel
theorem dX4_areNames_7 : decode cX4_areNames 7 = .ok (.iconst 0, 1) := by decide +kernel
theorem dX4_areNames_8 : decode cX4_areNames 8 = .ok (.ireturn, 1) := by decide +kernel
theorem dX4_areNames_9 : decode cX4_areNames 9 = .ok (.iconst 0, 1) := by decide +kernel
theorem dX4_areNames_10 : decode cX4_areNames 10 = .ok (.istore_n 1, 1) := by decide +kernel
theorem dX4_areNames_11 : decode cX4_areNames 11 = .ok (.iload_n 1, 1) := by decide +kernel
theorem dX4_areNames_12 : decode cX4_areNames 12 = .ok (.iconst 3, 1) := by decide +kernel
theorem dX4_areNames_13 : decode cX4_areNames 13 = .ok (.if_icmp .ge 50, 3) := by decide +kernel
theorem dX4_areNames_16 : decode cX4_areNames 16 = .ok (.aload_n 0, 1) := by decide +kernel
theorem dX4_areNames_17 : decode cX4_areNames 17 = .ok (.bipush 97, 2) := by decide +kernel
theorem dX4_areNames_19 : decode cX4_areNames 19 = .ok (.bipush 104, 2) := by decide +kernel
theorem dX4_areNames_21 : decode cX4_areNames 21 = .ok (.invokevirtual 243, 3) := by decide +kernel
theorem dX4_areNames_24 : decode cX4_areNames 24 = .ok (.ifCond .ne 5, 3) := by decide +kernel
theorem dX4_areNames_27 : decode cX4_areNames 27 = .ok (.iconst 0, 1) := by decide +kernel
theorem dX4_areNames_28 : decode cX4_areNames 28 = .ok (.ireturn, 1) := by decide +kernel
theorem dX4_areNames_29 : decode cX4_areNames 29 = .ok (.aload_n 0, 1) := by decide +kernel
theorem dX4_areNames_30 : decode cX4_areNames 30 = .ok (.getfield 53, 3) := by decide +kernel
theorem dX4_areNames_33 : decode cX4_areNames 33 = .ok (.iload_n 1, 1) := by decide +kernel
theorem dX4_areNames_34 : decode cX4_areNames 34 = .ok (.aload_n 0, 1) := by decide +kernel
theorem dX4_areNames_35 : decode cX4_areNames 35 = .ok (.getfield 19, 3) := by decide +kernel
theorem dX4_areNames_38 : decode cX4_areNames 38 = .ok (.aload_n 0, 1) := by decide +kernel
theorem dX4_areNames_39 : decode cX4_areNames 39 = .ok (.getfield 240, 3) := by decide +kernel
theorem dX4_areNames_42 : decode cX4_areNames 42 = .ok (.iaload, 1) := by decide +kernel
theorem dX4_areNames_43 : decode cX4_areNames 43 = .ok (.bipush 97, 2) := by decide +kernel
theorem dX4_areNames_45 : decode cX4_areNames 45 = .ok (.isub, 1) := by decide +kernel
theorem dX4_areNames_46 : decode cX4_areNames 46 = .ok (.iastore, 1) := by decide +kernel
theorem dX4_areNames_47 : decode cX4_areNames 47 = .ok (.aload_n 0, 1) := by decide +kernel
theorem dX4_areNames_48 : decode cX4_areNames 48 = .ok (.dup, 1) := by decide +kernel
theorem dX4_areNames_49 : decode cX4_areNames 49 = .ok (.getfield 240, 3) := by decide +kernel
theorem dX4_areNames_52 : decode cX4_areNames 52 = .ok (.iconst 1, 1) := by decide +kernel
theorem dX4_areNames_53 : decode cX4_areNames 53 = .ok (.iadd, 1) := by decide +kernel
theorem dX4_areNames_54 : decode cX4_areNames 54 = .ok (.putfield 240, 3) := by decide +kernel
theorem dX4_areNames_57 : decode cX4_areNames 57 = .ok (.iinc 1 1, 3) := by decide +kernel
theorem dX4_areNames_60 : decode cX4_areNames 60 = .ok (.goto (-49), 3) := by decide +kernel
theorem dX4_areNames_63 : decode cX4_areNames 63 = .ok (.iconst 1, 1) := by decide +kernel
theorem dX4_areNames_64 : decode cX4_areNames 64 = .ok (.ireturn, 1) := by decide +kernel
theorem dX4_does_0 : decode cX4_does 0 = .ok (.aload_n 0, 1) := by decide +kernel
theorem dX4_does_1 : decode cX4_does 1 = .ok (.getfield 263, 3) := by decide +kernel
theorem dX4_does_4 : decode cX4_does 4 = .ok (.tableswitch 138 1 5 #[36, 60, 84, 108, 131], 36) := by decide +kernel
theorem dX4_does_40 : decode cX4_does 40 = .ok (.aload_n 0, 1) := by decide +kernel
theorem dX4_does_41 : decode cX4_does 41 = .ok (.aload_n 0, 1) := by decide +kernel
theorem dX4_does_42 : decode cX4_does 42 = .ok (.getfield 53, 3) := by decide +kernel
theorem dX4_does_45 : decode cX4_does 45 = .ok (.iconst 0, 1) := by decide +kernel
theorem dX4_does_46 : decode cX4_does 46 = .ok (.iaload, 1) := by decide +kernel
theorem dX4_does_47 : decode cX4_does 47 = .ok (.aload_n 0, 1) := by decide +kernel
theorem dX4_does_48 : decode cX4_does 48 = .ok (.getfield 53, 3) := by decide +kernel
theorem dX4_does_51 : decode cX4_does 51 = .ok (.iconst 1, 1) := by decide +kernel
theorem dX4_does_52 : decode cX4_does 52 = .ok (.iaload, 1) := by decide +kernel
theorem dX4_does_53 : decode cX4_does 53 = .ok (.aload_n 0, 1) := by decide +kernel
theorem dX4_does_54 : decode cX4_does 54 = .ok (.getfield 53, 3) := by decide +kernel
theorem dX4_does_57 : decode cX4_does 57 = .ok (.iconst 2, 1) := by decide +kernel
theorem dX4_does_58 : decode cX4_does 58 = .ok (.iaload, 1) := by decide +kernel
theorem dX4_does_59 : decode cX4_does 59 = .ok (.iconst 1, 1) := by decide +kernel
theorem dX4_does_60 : decode cX4_does 60 = .ok (.invokevirtual 138, 3) := by decide +kernel
theorem dX4_does_63 : decode cX4_does 63 = .ok (.ireturn, 1) := by decide +kernel
theorem dX4_does_64 : decode cX4_does 64 = .ok (.aload_n 0, 1) := by decide +kernel
theorem dX4_does_65 : decode cX4_does 65 = .ok (.aload_n 0, 1) := by decide +kernel
theorem dX4_does_66 : decode cX4_does 66 = .ok (.getfield 53, 3) := by decide +kernel
theorem dX4_does_69 : decode cX4_does 69 = .ok (.iconst 0, 1) := by decide +kernel
theorem dX4_does_70 : decode cX4_does 70 = .ok (.iaload, 1) := by decide +kernel
theorem dX4_does_71 : decode cX4_does 71 = .ok (.aload_n 0, 1) := by decide +kernel
theorem dX4_does_72 : decode cX4_does 72 = .ok (.getfield 53, 3) := by decide +kernel
theorem dX4_does_75 : decode cX4_does 75 = .ok (.iconst 1, 1) := by decide +kernel
theorem dX4_does_76 : decode cX4_does 76 = .ok (.iaload, 1) := by decide +kernel
theorem dX4_does_77 : decode cX4_does 77 = .ok (.aload_n 0, 1) := by decide +kernel
theorem dX4_does_78 : decode cX4_does 78 = .ok (.getfield 53, 3) := by decide +kernel
theorem dX4_does_81 : decode cX4_does 81 = .ok (.iconst 2, 1) := by decide +kernel
theorem dX4_does_82 : decode cX4_does 82 = .ok (.iaload, 1) := by decide +kernel
theorem dX4_does_83 : decode cX4_does 83 = .ok (.iconst (-1), 1) := by decide +kernel
theorem dX4_does_84 : decode cX4_does 84 = .ok (.invokevirtual 138, 3) := by decide +kernel
theorem dX4_does_87 : decode cX4_does 87 = .ok (.ireturn, 1) := by decide +kernel
theorem dX4_does_88 : decode cX4_does 88 = .ok (.aload_n 0, 1) := by decide +kernel
theorem dX4_does_89 : decode cX4_does 89 = .ok (.aload_n 0, 1) := by decide +kernel
theorem dX4_does_90 : decode cX4_does 90 = .ok (.getfield 53, 3) := by decide +kernel
theorem dX4_does_93 : decode cX4_does 93 = .ok (.iconst 0, 1) := by decide +kernel
theorem dX4_does_94 : decode cX4_does 94 = .ok (.iaload, 1) := by decide +kernel
theorem dX4_does_95 : decode cX4_does 95 = .ok (.aload_n 0, 1) := by decide +kernel
theorem dX4_does_96 : decode cX4_does 96 = .ok (.getfield 53, 3) := by decide +kernel
theorem dX4_does_99 : decode cX4_does 99 = .ok (.iconst 1, 1) := by decide +kernel
theorem dX4_does_100 : decode cX4_does 100 = .ok (.iaload, 1) := by decide +kernel
theorem dX4_does_101 : decode cX4_does 101 = .ok (.aload_n 0, 1) := by decide +kernel
theorem dX4_does_102 : decode cX4_does 102 = .ok (.getfield 53, 3) := by decide +kernel
theorem dX4_does_105 : decode cX4_does 105 = .ok (.iconst 2, 1) := by decide +kernel
theorem dX4_does_106 : decode cX4_does 106 = .ok (.iaload, 1) := by decide +kernel
theorem dX4_does_107 : decode cX4_does 107 = .ok (.iconst 0, 1) := by decide +kernel
theorem dX4_does_108 : decode cX4_does 108 = .ok (.invokevirtual 138, 3) := by decide +kernel
theorem dX4_does_111 : decode cX4_does 111 = .ok (.ireturn, 1) := by decide +kernel
theorem dX4_does_112 : decode cX4_does 112 = .ok (.aload_n 0, 1) := by decide +kernel
theorem dX4_does_113 : decode cX4_does 113 = .ok (.aload_n 0, 1) := by decide +kernel
theorem dX4_does_114 : decode cX4_does 114 = .ok (.getfield 53, 3) := by decide +kernel
theorem dX4_does_117 : decode cX4_does 117 = .ok (.iconst 0, 1) := by decide +kernel
theorem dX4_does_118 : decode cX4_does 118 = .ok (.iaload, 1) := by decide +kernel
theorem dX4_does_119 : decode cX4_does 119 = .ok (.aload_n 0, 1) := by decide +kernel
theorem dX4_does_120 : decode cX4_does 120 = .ok (.getfield 53, 3) := by decide +kernel
theorem dX4_does_123 : decode cX4_does 123 = .ok (.iconst 1, 1) := by decide +kernel
theorem dX4_does_124 : decode cX4_does 124 = .ok (.iaload, 1) := by decide +kernel
theorem dX4_does_125 : decode cX4_does 125 = .ok (.aload_n 0, 1) := by decide +kernel
theorem dX4_does_126 : decode cX4_does 126 = .ok (.getfield 53, 3) := by decide +kernel
theorem dX4_does_129 : decode cX4_does 129 = .ok (.iconst 2, 1) := by decide +kernel
theorem dX4_does_130 : decode cX4_does 130 = .ok (.iaload, 1) := by decide +kernel
theorem dX4_does_131 : decode cX4_does 131 = .ok (.invokevirtual 145, 3) := by decide +kernel
theorem dX4_does_134 : decode cX4_does 134 = .ok (.ireturn, 1) := by decide +kernel
theorem dX4_does_135 : decode cX4_does 135 = .ok (.iconst 0, 1) := by decide +kernel
theorem dX4_does_136 : decode cX4_does 136 = .ok (.aload_n 0, 1) := by decide +kernel
theorem dX4_does_137 : decode cX4_does 137 = .ok (.invokevirtual 167, 3) := by decide +kernel
theorem dX4_does_140 : decode cX4_does 140 = .ok (.imul, 1) := by decide +kernel
theorem dX4_does_141 : decode cX4_does 141 = .ok (.ireturn, 1) := by decide +kernel
theorem dX4_does_142 : decode cX4_does 142 = .ok (.iconst 0, 1) := by decide +kernel
theorem dX4_does_143 : decode cX4_does 143 = .ok (.aload_n 0, 1) := by decide +kernel
theorem dX4_does_144 : decode cX4_does 144 = .ok (.bipush (-100), 2) := by decide +kernel
theorem dX4_does_146 : decode cX4_does 146 = .ok (.invokevirtual 170, 3) := by decide +kernel
theorem dX4_does_149 : decode cX4_does 149 = .ok (.imul, 1) := by decide +kernel
theorem dX4_does_150 : decode cX4_does 150 = .ok (.ireturn, 1) := by decide +kernel
theorem dX4_run_0 : decode cX4_run 0 = .ok (.aload_n 0, 1) := by decide +kernel
theorem dX4_run_1 : decode cX4_run 1 = .ok (.iconst 0, 1) := by decide +kernel
theorem dX4_run_2 : decode cX4_run 2 = .ok (.putfield 60, 3) := by decide +kernel
theorem dX4_run_5 : decode cX4_run 5 = .ok (.aload_n 0, 1) := by decide +kernel
theorem dX4_run_6 : decode cX4_run 6 = .ok (.iconst 0, 1) := by decide +kernel
theorem dX4_run_7 : decode cX4_run 7 = .ok (.putfield 240, 3) := by decide +kernel
theorem dX4_run_10 : decode cX4_run 10 = .ok (.aload_n 0, 1) := by decide +kernel
theorem dX4_run_11 : decode cX4_run 11 = .ok (.invokevirtual 270, 3) := by decide +kernel
theorem dX4_run_14 : decode cX4_run 14 = .ok (.istore_n 1, 1) := by decide +kernel
theorem dX4_run_15 : decode cX4_run 15 = .ok (.aload_n 0, 1) := by decide +kernel
theorem dX4_run_16 : decode cX4_run 16 = .ok (.getfield 240, 3) := by decide +kernel
theorem dX4_run_19 : decode cX4_run 19 = .ok (.aload_n 0, 1) := by decide +kernel
theorem dX4_run_20 : decode cX4_run 20 = .ok (.getfield 237, 3) := by decide +kernel
theorem dX4_run_23 : decode cX4_run 23 = .ok (.if_icmp .ge 27, 3) := by decide +kernel
theorem dX4_run_26 : decode cX4_run 26 = .ok (.aload_n 0, 1) := by decide +kernel
theorem dX4_run_27 : decode cX4_run 27 = .ok (.invokevirtual 273, 3) := by decide +kernel
theorem dX4_run_30 : decode cX4_run 30 = .ok (.ifCond .ne 12, 3) := by decide +kernel
theorem dX4_run_33 : decode cX4_run 33 = .ok (.sipush (-1000), 3) := by decide +kernel
theorem dX4_run_36 : decode cX4_run 36 = .ok (.aload_n 0, 1) := by decide +kernel
theorem dX4_run_37 : decode cX4_run 37 = .ok (.getfield 240, 3) := by decide +kernel
theorem dX4_run_40 : decode cX4_run 40 = .ok (.isub, 1) := by decide +kernel
theorem dX4_run_41 : decode cX4_run 41 = .ok (.ireturn, 1) := by decide +kernel
theorem dX4_run_42 : decode cX4_run 42 = .ok (.aload_n 0, 1) := by decide +kernel
theorem dX4_run_43 : decode cX4_run 43 = .ok (.invokevirtual 270, 3) := by decide +kernel
theorem dX4_run_46 : decode cX4_run 46 = .ok (.istore_n 1, 1) := by decide +kernel
theorem dX4_run_47 : decode cX4_run 47 = .ok (.goto (-32), 3) := by decide +kernel
theorem dX4_run_50 : decode cX4_run 50 = .ok (.aload_n 0, 1) := by decide +kernel
theorem dX4_run_51 : decode cX4_run 51 = .ok (.invokevirtual 116, 3) := by decide +kernel
theorem dX4_run_54 : decode cX4_run 54 = .ok (.aload_n 0, 1) := by decide +kernel
theorem dX4_run_55 : decode cX4_run 55 = .ok (.iconst 0, 1) := by decide +kernel
theorem dX4_run_56 : decode cX4_run 56 = .ok (.putfield 240, 3) := by decide +kernel
theorem dX4_run_59 : decode cX4_run 59 = .ok (.iconst 0, 1) := by decide +kernel
theorem dX4_run_60 : decode cX4_run 60 = .ok (.istore_n 2, 1) := by decide +kernel
theorem dX4_run_61 : decode cX4_run 61 = .ok (.iconst 1, 1) := by decide +kernel
theorem dX4_run_62 : decode cX4_run 62 = .ok (.istore_n 3, 1) := by decide +kernel
theorem dX4_run_63 : decode cX4_run 63 = .ok (.aload_n 0, 1) := by decide +kernel
theorem dX4_run_64 : decode cX4_run 64 = .ok (.invokevirtual 270, 3) := by decide +kernel
theorem dX4_run_67 : decode cX4_run 67 = .ok (.istore_n 1, 1) := by decide +kernel
theorem dX4_run_68 : decode cX4_run 68 = .ok (.aload_n 0, 1) := by decide +kernel
theorem dX4_run_69 : decode cX4_run 69 = .ok (.getfield 240, 3) := by decide +kernel
theorem dX4_run_72 : decode cX4_run 72 = .ok (.aload_n 0, 1) := by decide +kernel
theorem dX4_run_73 : decode cX4_run 73 = .ok (.getfield 237, 3) := by decide +kernel
theorem dX4_run_76 : decode cX4_run 76 = .ok (.if_icmp .ge 47, 3) := by decide +kernel
theorem dX4_run_79 : decode cX4_run 79 = .ok (.iload_n 3, 1) := by decide +kernel
theorem dX4_run_80 : decode cX4_run 80 = .ok (.ifCond .eq 43, 3) := by decide +kernel
theorem dX4_run_83 : decode cX4_run 83 = .ok (.aload_n 0, 1) := by decide +kernel
theorem dX4_run_84 : decode cX4_run 84 = .ok (.invokevirtual 273, 3) := by decide +kernel
theorem dX4_run_87 : decode cX4_run 87 = .ok (.ifCond .eq 14, 3) := by decide +kernel
theorem dX4_run_90 : decode cX4_run 90 = .ok (.aload_n 0, 1) := by decide +kernel
theorem dX4_run_91 : decode cX4_run 91 = .ok (.invokevirtual 276, 3) := by decide +kernel
theorem dX4_run_94 : decode cX4_run 94 = .ok (.ifCond .ne 7, 3) := by decide +kernel
theorem dX4_run_97 : decode cX4_run 97 = .ok (.iconst 1, 1) := by decide +kernel
theorem dX4_run_98 : decode cX4_run 98 = .ok (.goto 4, 3) := by decide +kernel
theorem dX4_run_101 : decode cX4_run 101 = .ok (.iconst 0, 1) := by decide +kernel
theorem dX4_run_102 : decode cX4_run 102 = .ok (.istore_n 3, 1) := by decide +kernel
theorem dX4_run_103 : decode cX4_run 103 = .ok (.iload_n 2, 1) := by decide +kernel
theorem dX4_run_104 : decode cX4_run 104 = .ok (.iload_n 3, 1) := by decide +kernel
theorem dX4_run_105 : decode cX4_run 105 = .ok (.ifCond .eq 7, 3) := by decide +kernel
theorem dX4_run_108 : decode cX4_run 108 = .ok (.iconst 1, 1) := by decide +kernel
theorem dX4_run_109 : decode cX4_run 109 = .ok (.goto 4, 3) := by decide +kernel
theorem dX4_run_112 : decode cX4_run 112 = .ok (.iconst 0, 1) := by decide +kernel
theorem dX4_run_113 : decode cX4_run 113 = .ok (.iadd, 1) := by decide +kernel
theorem dX4_run_114 : decode cX4_run 114 = .ok (.istore_n 2, 1) := by decide +kernel
theorem dX4_run_115 : decode cX4_run 115 = .ok (.aload_n 0, 1) := by decide +kernel
theorem dX4_run_116 : decode cX4_run 116 = .ok (.invokevirtual 270, 3) := by decide +kernel
theorem dX4_run_119 : decode cX4_run 119 = .ok (.istore_n 1, 1) := by decide +kernel
theorem dX4_run_120 : decode cX4_run 120 = .ok (.goto (-52), 3) := by decide +kernel
theorem dX4_run_123 : decode cX4_run 123 = .ok (.aload_n 0, 1) := by decide +kernel
theorem dX4_run_124 : decode cX4_run 124 = .ok (.iload_n 2, 1) := by decide +kernel
theorem dX4_run_125 : decode cX4_run 125 = .ok (.invokevirtual 119, 3) := by decide +kernel
theorem dX4_run_128 : decode cX4_run 128 = .ok (.ireturn, 1) := by decide +kernel
theorem dX4_letterOf_0 : decode cX4_letterOf 0 = .ok (.iload_n 0, 1) := by decide +kernel
theorem dX4_letterOf_1 : decode cX4_letterOf 1 = .ok (.ifCond .le 9, 3) := by decide +kernel
theorem dX4_letterOf_4 : decode cX4_letterOf 4 = .ok (.ldc2_w 279, 3) := by decide +kernel
theorem dX4_letterOf_7 : decode cX4_letterOf 7 = .ok (.goto 16, 3) := by decide +kernel
theorem dX4_letterOf_10 : decode cX4_letterOf 10 = .ok (.iload_n 0, 1) := by decide +kernel
theorem dX4_letterOf_11 : decode cX4_letterOf 11 = .ok (.ifCond .ge 9, 3) := by decide +kernel
theorem dX4_letterOf_14 : decode cX4_letterOf 14 = .ok (.ldc2_w 281, 3) := by decide +kernel
theorem dX4_letterOf_17 : decode cX4_letterOf 17 = .ok (.goto 6, 3) := by decide +kernel
theorem dX4_letterOf_20 : decode cX4_letterOf 20 = .ok (.ldc2_w 283, 3) := by decide +kernel
theorem dX4_letterOf_23 : decode cX4_letterOf 23 = .ok (.lstore_n 2, 1) := by decide +kernel
theorem dX4_letterOf_24 : decode cX4_letterOf 24 = .ok (.iload_n 0, 1) := by decide +kernel
theorem dX4_letterOf_25 : decode cX4_letterOf 25 = .ok (.ifCond .ge 8, 3) := by decide +kernel
theorem dX4_letterOf_28 : decode cX4_letterOf 28 = .ok (.bipush 6, 2) := by decide +kernel
theorem dX4_letterOf_30 : decode cX4_letterOf 30 = .ok (.goto 4, 3) := by decide +kernel
theorem dX4_letterOf_33 : decode cX4_letterOf 33 = .ok (.iconst 5, 1) := by decide +kernel
theorem dX4_letterOf_34 : decode cX4_letterOf 34 = .ok (.istore 4, 2) := by decide +kernel
theorem dX4_letterOf_36 : decode cX4_letterOf 36 = .ok (.iload_n 1, 1) := by decide +kernel
theorem dX4_letterOf_37 : decode cX4_letterOf 37 = .ok (.iload 4, 2) := by decide +kernel
theorem dX4_letterOf_39 : decode cX4_letterOf 39 = .ok (.if_icmp .ge 22, 3) := by decide +kernel
theorem dX4_letterOf_42 : decode cX4_letterOf 42 = .ok (.lload_n 2, 1) := by decide +kernel
theorem dX4_letterOf_43 : decode cX4_letterOf 43 = .ok (.bipush 8, 2) := by decide +kernel
theorem dX4_letterOf_45 : decode cX4_letterOf 45 = .ok (.iload 4, 2) := by decide +kernel
theorem dX4_letterOf_47 : decode cX4_letterOf 47 = .ok (.iconst 1, 1) := by decide +kernel
theorem dX4_letterOf_48 : decode cX4_letterOf 48 = .ok (.isub, 1) := by decide +kernel
theorem dX4_letterOf_49 : decode cX4_letterOf 49 = .ok (.iload_n 1, 1) := by decide +kernel
theorem dX4_letterOf_50 : decode cX4_letterOf 50 = .ok (.isub, 1) := by decide +kernel
theorem dX4_letterOf_51 : decode cX4_letterOf 51 = .ok (.imul, 1) := by decide +kernel
theorem dX4_letterOf_52 : decode cX4_letterOf 52 = .ok (.lshr, 1) := by decide +kernel
theorem dX4_letterOf_53 : decode cX4_letterOf 53 = .ok (.ldc2_w 285, 3) := by decide +kernel
theorem dX4_letterOf_56 : decode cX4_letterOf 56 = .ok (.land, 1) := by decide +kernel
theorem dX4_letterOf_57 : decode cX4_letterOf 57 = .ok (.l2i, 1) := by decide +kernel
theorem dX4_letterOf_58 : decode cX4_letterOf 58 = .ok (.goto 5, 3) := by decide +kernel
theorem dX4_letterOf_61 : decode cX4_letterOf 61 = .ok (.bipush (-100), 2) := by decide +kernel
theorem dX4_letterOf_63 : decode cX4_letterOf 63 = .ok (.ireturn, 1) := by decide +kernel
theorem dX4_written_0 : decode cX4_written 0 = .ok (.iload_n 1, 1) := by decide +kernel
theorem dX4_written_1 : decode cX4_written 1 = .ok (.ifCond .ge 9, 3) := by decide +kernel
theorem dX4_written_4 : decode cX4_written 4 = .ok (.aload_n 0, 1) := by decide +kernel
theorem dX4_written_5 : decode cX4_written 5 = .ok (.iconst 1, 1) := by decide +kernel
theorem dX4_written_6 : decode cX4_written 6 = .ok (.invokevirtual 113, 3) := by decide +kernel
theorem dX4_written_9 : decode cX4_written 9 = .ok (.ireturn, 1) := by decide +kernel
theorem dX4_written_10 : decode cX4_written 10 = .ok (.iload_n 1, 1) := by decide +kernel
theorem dX4_written_11 : decode cX4_written 11 = .ok (.istore_n 2, 1) := by decide +kernel
theorem dX4_written_12 : decode cX4_written 12 = .ok (.iconst 0, 1) := by decide +kernel
theorem dX4_written_13 : decode cX4_written 13 = .ok (.istore_n 3, 1) := by decide +kernel
theorem dX4_written_14 : decode cX4_written 14 = .ok (.iload_n 3, 1) := by decide +kernel
theorem dX4_written_15 : decode cX4_written 15 = .ok (.aload_n 0, 1) := by decide +kernel
theorem dX4_written_16 : decode cX4_written 16 = .ok (.getfield 71, 3) := by decide +kernel
theorem dX4_written_19 : decode cX4_written 19 = .ok (.if_icmp .ge 106, 3) := by decide +kernel
theorem dX4_written_22 : decode cX4_written 22 = .ok (.aload_n 0, 1) := by decide +kernel
theorem dX4_written_23 : decode cX4_written 23 = .ok (.iload_n 3, 1) := by decide +kernel
theorem dX4_written_24 : decode cX4_written 24 = .ok (.iconst 1, 1) := by decide +kernel
theorem dX4_written_25 : decode cX4_written 25 = .ok (.invokevirtual 106, 3) := by decide +kernel
theorem dX4_written_28 : decode cX4_written 28 = .ok (.iconst 1, 1) := by decide +kernel
theorem dX4_written_29 : decode cX4_written 29 = .ok (.if_icmp .ne 90, 3) := by decide +kernel
theorem dX4_written_32 : decode cX4_written 32 = .ok (.aload_n 0, 1) := by decide +kernel
theorem dX4_written_33 : decode cX4_written 33 = .ok (.iload_n 3, 1) := by decide +kernel
theorem dX4_written_34 : decode cX4_written 34 = .ok (.iconst 0, 1) := by decide +kernel
theorem dX4_written_35 : decode cX4_written 35 = .ok (.invokevirtual 106, 3) := by decide +kernel
theorem dX4_written_38 : decode cX4_written 38 = .ok (.ifCond .ge 8, 3) := by decide +kernel
theorem dX4_written_41 : decode cX4_written 41 = .ok (.bipush 6, 2) := by decide +kernel
theorem dX4_written_43 : decode cX4_written 43 = .ok (.goto 4, 3) := by decide +kernel
theorem dX4_written_46 : decode cX4_written 46 = .ok (.iconst 5, 1) := by decide +kernel
theorem dX4_written_47 : decode cX4_written 47 = .ok (.istore 4, 2) := by decide +kernel
theorem dX4_written_49 : decode cX4_written 49 = .ok (.iload_n 2, 1) := by decide +kernel
theorem dX4_written_50 : decode cX4_written 50 = .ok (.iload 4, 2) := by decide +kernel
theorem dX4_written_52 : decode cX4_written 52 = .ok (.if_icmp .ge 18, 3) := by decide +kernel
theorem dX4_written_55 : decode cX4_written 55 = .ok (.aload_n 0, 1) := by decide +kernel
theorem dX4_written_56 : decode cX4_written 56 = .ok (.aload_n 0, 1) := by decide +kernel
theorem dX4_written_57 : decode cX4_written 57 = .ok (.iload_n 3, 1) := by decide +kernel
theorem dX4_written_58 : decode cX4_written 58 = .ok (.iconst 0, 1) := by decide +kernel
theorem dX4_written_59 : decode cX4_written 59 = .ok (.invokevirtual 106, 3) := by decide +kernel
theorem dX4_written_62 : decode cX4_written 62 = .ok (.iload_n 2, 1) := by decide +kernel
theorem dX4_written_63 : decode cX4_written 63 = .ok (.invokestatic 287, 3) := by decide +kernel
theorem dX4_written_66 : decode cX4_written 66 = .ok (.invokevirtual 67, 3) := by decide +kernel
theorem dX4_written_69 : decode cX4_written 69 = .ok (.ireturn, 1) := by decide +kernel
theorem dX4_written_70 : decode cX4_written 70 = .ok (.iload_n 2, 1) := by decide +kernel
theorem dX4_written_71 : decode cX4_written 71 = .ok (.iload 4, 2) := by decide +kernel
theorem dX4_written_73 : decode cX4_written 73 = .ok (.iconst 4, 1) := by decide +kernel
theorem dX4_written_74 : decode cX4_written 74 = .ok (.iadd, 1) := by decide +kernel
theorem dX4_written_75 : decode cX4_written 75 = .ok (.if_icmp .ge 37, 3) := by decide +kernel
theorem dX4_written_78 : decode cX4_written 78 = .ok (.aload_n 0, 1) := by decide +kernel
theorem dX4_written_79 : decode cX4_written 79 = .ok (.iload_n 2, 1) := by decide +kernel
theorem dX4_written_80 : decode cX4_written 80 = .ok (.iload 4, 2) := by decide +kernel
theorem dX4_written_82 : decode cX4_written 82 = .ok (.iconst 3, 1) := by decide +kernel
theorem dX4_written_83 : decode cX4_written 83 = .ok (.iadd, 1) := by decide +kernel
theorem dX4_written_84 : decode cX4_written 84 = .ok (.if_icmp .ne 8, 3) := by decide +kernel
theorem dX4_written_87 : decode cX4_written 87 = .ok (.bipush 59, 2) := by decide +kernel
theorem dX4_written_89 : decode cX4_written 89 = .ok (.goto 19, 3) := by decide +kernel
theorem dX4_written_92 : decode cX4_written 92 = .ok (.bipush 97, 2) := by decide +kernel
theorem dX4_written_94 : decode cX4_written 94 = .ok (.aload_n 0, 1) := by decide +kernel
theorem dX4_written_95 : decode cX4_written 95 = .ok (.getfield 22, 3) := by decide +kernel
theorem dX4_written_98 : decode cX4_written 98 = .ok (.iconst 3, 1) := by decide +kernel
theorem dX4_written_99 : decode cX4_written 99 = .ok (.iload_n 3, 1) := by decide +kernel
theorem dX4_written_100 : decode cX4_written 100 = .ok (.imul, 1) := by decide +kernel
theorem dX4_written_101 : decode cX4_written 101 = .ok (.iload_n 2, 1) := by decide +kernel
theorem dX4_written_102 : decode cX4_written 102 = .ok (.iadd, 1) := by decide +kernel
theorem dX4_written_103 : decode cX4_written 103 = .ok (.iload 4, 2) := by decide +kernel
theorem dX4_written_105 : decode cX4_written 105 = .ok (.isub, 1) := by decide +kernel
theorem dX4_written_106 : decode cX4_written 106 = .ok (.iaload, 1) := by decide +kernel
theorem dX4_written_107 : decode cX4_written 107 = .ok (.iadd, 1) := by decide +kernel
theorem dX4_written_108 : decode cX4_written 108 = .ok (.invokevirtual 67, 3) := by decide +kernel
theorem dX4_written_111 : decode cX4_written 111 = .ok (.ireturn, 1) := by decide +kernel
theorem dX4_written_112 : decode cX4_written 112 = .ok (.iload_n 2, 1) := by decide +kernel
theorem dX4_written_113 : decode cX4_written 113 = .ok (.iload 4, 2) := by decide +kernel
theorem dX4_written_115 : decode cX4_written 115 = .ok (.iconst 4, 1) := by decide +kernel
theorem dX4_written_116 : decode cX4_written 116 = .ok (.iadd, 1) := by decide +kernel
theorem dX4_written_117 : decode cX4_written 117 = .ok (.isub, 1) := by decide +kernel
theorem dX4_written_118 : decode cX4_written 118 = .ok (.istore_n 2, 1) := by decide +kernel
theorem dX4_written_119 : decode cX4_written 119 = .ok (.iinc 3 1, 3) := by decide +kernel
theorem dX4_written_122 : decode cX4_written 122 = .ok (.goto (-108), 3) := by decide +kernel
theorem dX4_written_125 : decode cX4_written 125 = .ok (.aload_n 0, 1) := by decide +kernel
theorem dX4_written_126 : decode cX4_written 126 = .ok (.bipush (-100), 2) := by decide +kernel
theorem dX4_written_128 : decode cX4_written 128 = .ok (.invokevirtual 67, 3) := by decide +kernel
theorem dX4_written_131 : decode cX4_written 131 = .ok (.ireturn, 1) := by decide +kernel
theorem dX4_undo_0 : decode cX4_undo 0 = .ok (.aload_n 0, 1) := by decide +kernel
theorem dX4_undo_1 : decode cX4_undo 1 = .ok (.getfield 64, 3) := by decide +kernel
theorem dX4_undo_4 : decode cX4_undo 4 = .ok (.ifCond .ne 9, 3) := by decide +kernel
theorem dX4_undo_7 : decode cX4_undo 7 = .ok (.aload_n 0, 1) := by decide +kernel
theorem dX4_undo_8 : decode cX4_undo 8 = .ok (.iconst 1, 1) := by decide +kernel
theorem dX4_undo_9 : decode cX4_undo 9 = .ok (.invokevirtual 113, 3) := by decide +kernel
theorem dX4_undo_12 : decode cX4_undo 12 = .ok (.ireturn, 1) := by decide +kernel
theorem dX4_undo_13 : decode cX4_undo 13 = .ok (.aload_n 0, 1) := by decide +kernel
theorem dX4_undo_14 : decode cX4_undo 14 = .ok (.dup, 1) := by decide +kernel
theorem dX4_undo_15 : decode cX4_undo 15 = .ok (.getfield 64, 3) := by decide +kernel
theorem dX4_undo_18 : decode cX4_undo 18 = .ok (.iconst 1, 1) := by decide +kernel
theorem dX4_undo_19 : decode cX4_undo 19 = .ok (.isub, 1) := by decide +kernel
theorem dX4_undo_20 : decode cX4_undo 20 = .ok (.putfield 64, 3) := by decide +kernel
theorem dX4_undo_23 : decode cX4_undo 23 = .ok (.iconst 0, 1) := by decide +kernel
theorem dX4_undo_24 : decode cX4_undo 24 = .ok (.istore_n 1, 1) := by decide +kernel
theorem dX4_undo_25 : decode cX4_undo 25 = .ok (.iload_n 1, 1) := by decide +kernel
theorem dX4_undo_26 : decode cX4_undo 26 = .ok (.sipush 243, 3) := by decide +kernel
theorem dX4_undo_29 : decode cX4_undo 29 = .ok (.if_icmp .ge 30, 3) := by decide +kernel
theorem dX4_undo_32 : decode cX4_undo 32 = .ok (.aload_n 0, 1) := by decide +kernel
theorem dX4_undo_33 : decode cX4_undo 33 = .ok (.getfield 7, 3) := by decide +kernel
theorem dX4_undo_36 : decode cX4_undo 36 = .ok (.iload_n 1, 1) := by decide +kernel
theorem dX4_undo_37 : decode cX4_undo 37 = .ok (.aload_n 0, 1) := by decide +kernel
theorem dX4_undo_38 : decode cX4_undo 38 = .ok (.getfield 13, 3) := by decide +kernel
theorem dX4_undo_41 : decode cX4_undo 41 = .ok (.sipush 243, 3) := by decide +kernel
theorem dX4_undo_44 : decode cX4_undo 44 = .ok (.aload_n 0, 1) := by decide +kernel
theorem dX4_undo_45 : decode cX4_undo 45 = .ok (.getfield 64, 3) := by decide +kernel
theorem dX4_undo_48 : decode cX4_undo 48 = .ok (.imul, 1) := by decide +kernel
theorem dX4_undo_49 : decode cX4_undo 49 = .ok (.iload_n 1, 1) := by decide +kernel
theorem dX4_undo_50 : decode cX4_undo 50 = .ok (.iadd, 1) := by decide +kernel
theorem dX4_undo_51 : decode cX4_undo 51 = .ok (.iaload, 1) := by decide +kernel
theorem dX4_undo_52 : decode cX4_undo 52 = .ok (.iastore, 1) := by decide +kernel
theorem dX4_undo_53 : decode cX4_undo 53 = .ok (.iinc 1 1, 3) := by decide +kernel
theorem dX4_undo_56 : decode cX4_undo 56 = .ok (.goto (-31), 3) := by decide +kernel
theorem dX4_undo_59 : decode cX4_undo 59 = .ok (.aload_n 0, 1) := by decide +kernel
theorem dX4_undo_60 : decode cX4_undo 60 = .ok (.invokevirtual 84, 3) := by decide +kernel
theorem dX4_undo_63 : decode cX4_undo 63 = .ok (.aload_n 0, 1) := by decide +kernel
theorem dX4_undo_64 : decode cX4_undo 64 = .ok (.aload_n 0, 1) := by decide +kernel
theorem dX4_undo_65 : decode cX4_undo 65 = .ok (.getfield 64, 3) := by decide +kernel
theorem dX4_undo_68 : decode cX4_undo 68 = .ok (.invokevirtual 67, 3) := by decide +kernel
theorem dX4_undo_71 : decode cX4_undo 71 = .ok (.ireturn, 1) := by decide +kernel
theorem dX4_mix_0 : decode cX4_mix 0 = .ok (.aload_n 0, 1) := by decide +kernel
theorem dX4_mix_1 : decode cX4_mix 1 = .ok (.ldc2_w 290, 3) := by decide +kernel
theorem dX4_mix_4 : decode cX4_mix 4 = .ok (.aload_n 0, 1) := by decide +kernel
theorem dX4_mix_5 : decode cX4_mix 5 = .ok (.getfield 292, 3) := by decide +kernel
theorem dX4_mix_8 : decode cX4_mix 8 = .ok (.lmul, 1) := by decide +kernel
theorem dX4_mix_9 : decode cX4_mix 9 = .ok (.lload_n 1, 1) := by decide +kernel
theorem dX4_mix_10 : decode cX4_mix 10 = .ok (.ladd, 1) := by decide +kernel
theorem dX4_mix_11 : decode cX4_mix 11 = .ok (.putfield 292, 3) := by decide +kernel
theorem dX4_mix_14 : decode cX4_mix 14 = .ok (.return_, 1) := by decide +kernel
theorem dX4_digest_0 : decode cX4_digest 0 = .ok (.aload_n 0, 1) := by decide +kernel
theorem dX4_digest_1 : decode cX4_digest 1 = .ok (.iconst 0, 1) := by decide +kernel
theorem dX4_digest_2 : decode cX4_digest 2 = .ok (.putfield 60, 3) := by decide +kernel
theorem dX4_digest_5 : decode cX4_digest 5 = .ok (.aload_n 0, 1) := by decide +kernel
theorem dX4_digest_6 : decode cX4_digest 6 = .ok (.ldc2_w 296, 3) := by decide +kernel
theorem dX4_digest_9 : decode cX4_digest 9 = .ok (.putfield 292, 3) := by decide +kernel
theorem dX4_digest_12 : decode cX4_digest 12 = .ok (.aload_n 0, 1) := by decide +kernel
theorem dX4_digest_13 : decode cX4_digest 13 = .ok (.aload_n 0, 1) := by decide +kernel
theorem dX4_digest_14 : decode cX4_digest 14 = .ok (.getfield 64, 3) := by decide +kernel
theorem dX4_digest_17 : decode cX4_digest 17 = .ok (.i2l, 1) := by decide +kernel
theorem dX4_digest_18 : decode cX4_digest 18 = .ok (.invokevirtual 298, 3) := by decide +kernel
theorem dX4_digest_21 : decode cX4_digest 21 = .ok (.aload_n 0, 1) := by decide +kernel
theorem dX4_digest_22 : decode cX4_digest 22 = .ok (.aload_n 0, 1) := by decide +kernel
theorem dX4_digest_23 : decode cX4_digest 23 = .ok (.getfield 237, 3) := by decide +kernel
theorem dX4_digest_26 : decode cX4_digest 26 = .ok (.i2l, 1) := by decide +kernel
theorem dX4_digest_27 : decode cX4_digest 27 = .ok (.invokevirtual 298, 3) := by decide +kernel
theorem dX4_digest_30 : decode cX4_digest 30 = .ok (.iconst 0, 1) := by decide +kernel
theorem dX4_digest_31 : decode cX4_digest 31 = .ok (.istore_n 1, 1) := by decide +kernel
theorem dX4_digest_32 : decode cX4_digest 32 = .ok (.iload_n 1, 1) := by decide +kernel
theorem dX4_digest_33 : decode cX4_digest 33 = .ok (.bipush 10, 2) := by decide +kernel
theorem dX4_digest_35 : decode cX4_digest 35 = .ok (.if_icmp .ge 19, 3) := by decide +kernel
theorem dX4_digest_38 : decode cX4_digest 38 = .ok (.aload_n 0, 1) := by decide +kernel
theorem dX4_digest_39 : decode cX4_digest 39 = .ok (.aload_n 0, 1) := by decide +kernel
theorem dX4_digest_40 : decode cX4_digest 40 = .ok (.iload_n 1, 1) := by decide +kernel
theorem dX4_digest_41 : decode cX4_digest 41 = .ok (.invokevirtual 196, 3) := by decide +kernel
theorem dX4_digest_44 : decode cX4_digest 44 = .ok (.i2l, 1) := by decide +kernel
theorem dX4_digest_45 : decode cX4_digest 45 = .ok (.invokevirtual 298, 3) := by decide +kernel
theorem dX4_digest_48 : decode cX4_digest 48 = .ok (.iinc 1 1, 3) := by decide +kernel
theorem dX4_digest_51 : decode cX4_digest 51 = .ok (.goto (-19), 3) := by decide +kernel
theorem dX4_digest_54 : decode cX4_digest 54 = .ok (.aload_n 0, 1) := by decide +kernel
theorem dX4_digest_55 : decode cX4_digest 55 = .ok (.invokevirtual 186, 3) := by decide +kernel
theorem dX4_digest_58 : decode cX4_digest 58 = .ok (.iconst 0, 1) := by decide +kernel
theorem dX4_digest_59 : decode cX4_digest 59 = .ok (.istore_n 1, 1) := by decide +kernel
theorem dX4_digest_60 : decode cX4_digest 60 = .ok (.iload_n 1, 1) := by decide +kernel
theorem dX4_digest_61 : decode cX4_digest 61 = .ok (.aload_n 0, 1) := by decide +kernel
theorem dX4_digest_62 : decode cX4_digest 62 = .ok (.getfield 71, 3) := by decide +kernel
theorem dX4_digest_65 : decode cX4_digest 65 = .ok (.if_icmp .ge 44, 3) := by decide +kernel
theorem dX4_digest_68 : decode cX4_digest 68 = .ok (.iconst 3, 1) := by decide +kernel
theorem dX4_digest_69 : decode cX4_digest 69 = .ok (.istore_n 2, 1) := by decide +kernel
theorem dX4_digest_70 : decode cX4_digest 70 = .ok (.iload_n 2, 1) := by decide +kernel
theorem dX4_digest_71 : decode cX4_digest 71 = .ok (.bipush 7, 2) := by decide +kernel
theorem dX4_digest_73 : decode cX4_digest 73 = .ok (.if_icmp .ge 20, 3) := by decide +kernel
theorem dX4_digest_76 : decode cX4_digest 76 = .ok (.aload_n 0, 1) := by decide +kernel
theorem dX4_digest_77 : decode cX4_digest 77 = .ok (.aload_n 0, 1) := by decide +kernel
theorem dX4_digest_78 : decode cX4_digest 78 = .ok (.iload_n 1, 1) := by decide +kernel
theorem dX4_digest_79 : decode cX4_digest 79 = .ok (.iload_n 2, 1) := by decide +kernel
theorem dX4_digest_80 : decode cX4_digest 80 = .ok (.invokevirtual 179, 3) := by decide +kernel
theorem dX4_digest_83 : decode cX4_digest 83 = .ok (.i2l, 1) := by decide +kernel
theorem dX4_digest_84 : decode cX4_digest 84 = .ok (.invokevirtual 298, 3) := by decide +kernel
theorem dX4_digest_87 : decode cX4_digest 87 = .ok (.iinc 2 1, 3) := by decide +kernel
theorem dX4_digest_90 : decode cX4_digest 90 = .ok (.goto (-20), 3) := by decide +kernel
theorem dX4_digest_93 : decode cX4_digest 93 = .ok (.aload_n 0, 1) := by decide +kernel
theorem dX4_digest_94 : decode cX4_digest 94 = .ok (.aload_n 0, 1) := by decide +kernel
theorem dX4_digest_95 : decode cX4_digest 95 = .ok (.getfield 40, 3) := by decide +kernel
theorem dX4_digest_98 : decode cX4_digest 98 = .ok (.iload_n 1, 1) := by decide +kernel
theorem dX4_digest_99 : decode cX4_digest 99 = .ok (.laload, 1) := by decide +kernel
theorem dX4_digest_100 : decode cX4_digest 100 = .ok (.invokevirtual 298, 3) := by decide +kernel
theorem dX4_digest_103 : decode cX4_digest 103 = .ok (.iinc 1 1, 3) := by decide +kernel
theorem dX4_digest_106 : decode cX4_digest 106 = .ok (.goto (-46), 3) := by decide +kernel
theorem dX4_digest_109 : decode cX4_digest 109 = .ok (.iconst 0, 1) := by decide +kernel
theorem dX4_digest_110 : decode cX4_digest 110 = .ok (.istore_n 1, 1) := by decide +kernel
theorem dX4_digest_111 : decode cX4_digest 111 = .ok (.iload_n 1, 1) := by decide +kernel
theorem dX4_digest_112 : decode cX4_digest 112 = .ok (.aload_n 0, 1) := by decide +kernel
theorem dX4_digest_113 : decode cX4_digest 113 = .ok (.getfield 74, 3) := by decide +kernel
theorem dX4_digest_116 : decode cX4_digest 116 = .ok (.if_icmp .ge 32, 3) := by decide +kernel
theorem dX4_digest_119 : decode cX4_digest 119 = .ok (.aload_n 0, 1) := by decide +kernel
theorem dX4_digest_120 : decode cX4_digest 120 = .ok (.aload_n 0, 1) := by decide +kernel
theorem dX4_digest_121 : decode cX4_digest 121 = .ok (.iload_n 1, 1) := by decide +kernel
theorem dX4_digest_122 : decode cX4_digest 122 = .ok (.iconst 5, 1) := by decide +kernel
theorem dX4_digest_123 : decode cX4_digest 123 = .ok (.invokevirtual 202, 3) := by decide +kernel
theorem dX4_digest_126 : decode cX4_digest 126 = .ok (.i2l, 1) := by decide +kernel
theorem dX4_digest_127 : decode cX4_digest 127 = .ok (.invokevirtual 298, 3) := by decide +kernel
theorem dX4_digest_130 : decode cX4_digest 130 = .ok (.aload_n 0, 1) := by decide +kernel
theorem dX4_digest_131 : decode cX4_digest 131 = .ok (.aload_n 0, 1) := by decide +kernel
theorem dX4_digest_132 : decode cX4_digest 132 = .ok (.iload_n 1, 1) := by decide +kernel
theorem dX4_digest_133 : decode cX4_digest 133 = .ok (.bipush 6, 2) := by decide +kernel
theorem dX4_digest_135 : decode cX4_digest 135 = .ok (.invokevirtual 202, 3) := by decide +kernel
theorem dX4_digest_138 : decode cX4_digest 138 = .ok (.i2l, 1) := by decide +kernel
theorem dX4_digest_139 : decode cX4_digest 139 = .ok (.invokevirtual 298, 3) := by decide +kernel
theorem dX4_digest_142 : decode cX4_digest 142 = .ok (.iinc 1 1, 3) := by decide +kernel
theorem dX4_digest_145 : decode cX4_digest 145 = .ok (.goto (-34), 3) := by decide +kernel
theorem dX4_digest_148 : decode cX4_digest 148 = .ok (.iconst 0, 1) := by decide +kernel
theorem dX4_digest_149 : decode cX4_digest 149 = .ok (.istore_n 1, 1) := by decide +kernel
theorem dX4_digest_150 : decode cX4_digest 150 = .ok (.iload_n 1, 1) := by decide +kernel
theorem dX4_digest_151 : decode cX4_digest 151 = .ok (.aload_n 0, 1) := by decide +kernel
theorem dX4_digest_152 : decode cX4_digest 152 = .ok (.getfield 7, 3) := by decide +kernel
theorem dX4_digest_155 : decode cX4_digest 155 = .ok (.iconst 0, 1) := by decide +kernel
theorem dX4_digest_156 : decode cX4_digest 156 = .ok (.iaload, 1) := by decide +kernel
theorem dX4_digest_157 : decode cX4_digest 157 = .ok (.if_icmp .ge 62, 3) := by decide +kernel
theorem dX4_digest_160 : decode cX4_digest 160 = .ok (.aload_n 0, 1) := by decide +kernel
theorem dX4_digest_161 : decode cX4_digest 161 = .ok (.aload_n 0, 1) := by decide +kernel
theorem dX4_digest_162 : decode cX4_digest 162 = .ok (.iload_n 1, 1) := by decide +kernel
theorem dX4_digest_163 : decode cX4_digest 163 = .ok (.invokevirtual 205, 3) := by decide +kernel
theorem dX4_digest_166 : decode cX4_digest 166 = .ok (.ifCond .eq 7, 3) := by decide +kernel
theorem dX4_digest_169 : decode cX4_digest 169 = .ok (.lconst 1, 1) := by decide +kernel
theorem dX4_digest_170 : decode cX4_digest 170 = .ok (.goto 4, 3) := by decide +kernel
theorem dX4_digest_173 : decode cX4_digest 173 = .ok (.lconst 0, 1) := by decide +kernel
theorem dX4_digest_174 : decode cX4_digest 174 = .ok (.invokevirtual 298, 3) := by decide +kernel
theorem dX4_digest_177 : decode cX4_digest 177 = .ok (.aload_n 0, 1) := by decide +kernel
theorem dX4_digest_178 : decode cX4_digest 178 = .ok (.aload_n 0, 1) := by decide +kernel
theorem dX4_digest_179 : decode cX4_digest 179 = .ok (.getfield 7, 3) := by decide +kernel
theorem dX4_digest_182 : decode cX4_digest 182 = .ok (.sipush 227, 3) := by decide +kernel
theorem dX4_digest_185 : decode cX4_digest 185 = .ok (.iconst 2, 1) := by decide +kernel
theorem dX4_digest_186 : decode cX4_digest 186 = .ok (.iload_n 1, 1) := by decide +kernel
theorem dX4_digest_187 : decode cX4_digest 187 = .ok (.imul, 1) := by decide +kernel
theorem dX4_digest_188 : decode cX4_digest 188 = .ok (.iadd, 1) := by decide +kernel
theorem dX4_digest_189 : decode cX4_digest 189 = .ok (.iaload, 1) := by decide +kernel
theorem dX4_digest_190 : decode cX4_digest 190 = .ok (.i2l, 1) := by decide +kernel
theorem dX4_digest_191 : decode cX4_digest 191 = .ok (.invokevirtual 298, 3) := by decide +kernel
theorem dX4_digest_194 : decode cX4_digest 194 = .ok (.aload_n 0, 1) := by decide +kernel
theorem dX4_digest_195 : decode cX4_digest 195 = .ok (.aload_n 0, 1) := by decide +kernel
theorem dX4_digest_196 : decode cX4_digest 196 = .ok (.getfield 7, 3) := by decide +kernel
theorem dX4_digest_199 : decode cX4_digest 199 = .ok (.sipush 227, 3) := by decide +kernel
theorem dX4_digest_202 : decode cX4_digest 202 = .ok (.iconst 2, 1) := by decide +kernel
theorem dX4_digest_203 : decode cX4_digest 203 = .ok (.iload_n 1, 1) := by decide +kernel
theorem dX4_digest_204 : decode cX4_digest 204 = .ok (.imul, 1) := by decide +kernel
theorem dX4_digest_205 : decode cX4_digest 205 = .ok (.iadd, 1) := by decide +kernel
theorem dX4_digest_206 : decode cX4_digest 206 = .ok (.iconst 1, 1) := by decide +kernel
theorem dX4_digest_207 : decode cX4_digest 207 = .ok (.iadd, 1) := by decide +kernel
theorem dX4_digest_208 : decode cX4_digest 208 = .ok (.iaload, 1) := by decide +kernel
theorem dX4_digest_209 : decode cX4_digest 209 = .ok (.i2l, 1) := by decide +kernel
theorem dX4_digest_210 : decode cX4_digest 210 = .ok (.invokevirtual 298, 3) := by decide +kernel
theorem dX4_digest_213 : decode cX4_digest 213 = .ok (.iinc 1 1, 3) := by decide +kernel
theorem dX4_digest_216 : decode cX4_digest 216 = .ok (.goto (-66), 3) := by decide +kernel
theorem dX4_digest_219 : decode cX4_digest 219 = .ok (.aload_n 0, 1) := by decide +kernel
theorem dX4_digest_220 : decode cX4_digest 220 = .ok (.aload_n 0, 1) := by decide +kernel
theorem dX4_digest_221 : decode cX4_digest 221 = .ok (.invokevirtual 223, 3) := by decide +kernel
theorem dX4_digest_224 : decode cX4_digest 224 = .ok (.i2l, 1) := by decide +kernel
theorem dX4_digest_225 : decode cX4_digest 225 = .ok (.invokevirtual 298, 3) := by decide +kernel
theorem dX4_digest_228 : decode cX4_digest 228 = .ok (.aload_n 0, 1) := by decide +kernel
theorem dX4_digest_229 : decode cX4_digest 229 = .ok (.getfield 292, 3) := by decide +kernel
theorem dX4_digest_232 : decode cX4_digest 232 = .ok (.lreturn, 1) := by decide +kernel
theorem dJ6_compare_7cf53_0 : decode cJ6_compare_7cf53 0 = .ok (.iload_n 0, 1) := by decide +kernel
theorem dJ6_compare_7cf53_1 : decode cJ6_compare_7cf53 1 = .ok (.iload_n 1, 1) := by decide +kernel
theorem dJ6_compare_7cf53_2 : decode cJ6_compare_7cf53 2 = .ok (.if_icmp .ge 7, 3) := by decide +kernel
theorem dJ6_compare_7cf53_5 : decode cJ6_compare_7cf53 5 = .ok (.iconst (-1), 1) := by decide +kernel
theorem dJ6_compare_7cf53_6 : decode cJ6_compare_7cf53 6 = .ok (.goto 13, 3) := by decide +kernel
theorem dJ6_compare_7cf53_9 : decode cJ6_compare_7cf53 9 = .ok (.iload_n 0, 1) := by decide +kernel
theorem dJ6_compare_7cf53_10 : decode cJ6_compare_7cf53 10 = .ok (.iload_n 1, 1) := by decide +kernel
theorem dJ6_compare_7cf53_11 : decode cJ6_compare_7cf53 11 = .ok (.if_icmp .ne 7, 3) := by decide +kernel
theorem dJ6_compare_7cf53_14 : decode cJ6_compare_7cf53 14 = .ok (.iconst 0, 1) := by decide +kernel
theorem dJ6_compare_7cf53_15 : decode cJ6_compare_7cf53 15 = .ok (.goto 4, 3) := by decide +kernel
theorem dJ6_compare_7cf53_18 : decode cJ6_compare_7cf53 18 = .ok (.iconst 1, 1) := by decide +kernel
theorem dJ6_compare_7cf53_19 : decode cJ6_compare_7cf53 19 = .ok (.ireturn, 1) := by decide +kernel
theorem dJ0_length_8abf5_0 : decode cJ0_length_8abf5 0 = .ok (.aload_n 0, 1) := by decide +kernel
theorem dJ0_length_8abf5_1 : decode cJ0_length_8abf5 1 = .ok (.getfield 9, 3) := by decide +kernel
theorem dJ0_length_8abf5_4 : decode cJ0_length_8abf5 4 = .ok (.arraylength, 1) := by decide +kernel
theorem dJ0_length_8abf5_5 : decode cJ0_length_8abf5 5 = .ok (.aload_n 0, 1) := by decide +kernel
theorem dJ0_length_8abf5_6 : decode cJ0_length_8abf5 6 = .ok (.invokevirtual 335, 3) := by decide +kernel
theorem dJ0_length_8abf5_9 : decode cJ0_length_8abf5 9 = .ok (.ishr, 1) := by decide +kernel
theorem dJ0_length_8abf5_10 : decode cJ0_length_8abf5 10 = .ok (.ireturn, 1) := by decide +kernel
theorem dJ0_charAt_5068e_0 : decode cJ0_charAt_5068e 0 = .ok (.aload_n 0, 1) := by decide +kernel
theorem dJ0_charAt_5068e_1 : decode cJ0_charAt_5068e 1 = .ok (.invokevirtual 492, 3) := by decide +kernel
theorem dJ0_charAt_5068e_4 : decode cJ0_charAt_5068e 4 = .ok (.ifCond .eq 12, 3) := by decide +kernel
theorem dJ0_charAt_5068e_7 : decode cJ0_charAt_5068e 7 = .ok (.aload_n 0, 1) := by decide +kernel
theorem dJ0_charAt_5068e_8 : decode cJ0_charAt_5068e 8 = .ok (.getfield 9, 3) := by decide +kernel
theorem dJ0_charAt_5068e_11 : decode cJ0_charAt_5068e 11 = .ok (.iload_n 1, 1) := by decide +kernel
theorem dJ0_charAt_5068e_12 : decode cJ0_charAt_5068e 12 = .ok (.invokestatic 495, 3) := by decide +kernel
theorem dJ0_charAt_5068e_15 : decode cJ0_charAt_5068e 15 = .ok (.ireturn, 1) := by decide +kernel
theorem dJ0_charAt_5068e_16 : decode cJ0_charAt_5068e 16 = .ok (.aload_n 0, 1) := by decide +kernel
theorem dJ0_charAt_5068e_17 : decode cJ0_charAt_5068e 17 = .ok (.getfield 9, 3) := by decide +kernel
theorem dJ0_charAt_5068e_20 : decode cJ0_charAt_5068e 20 = .ok (.iload_n 1, 1) := by decide +kernel
theorem dJ0_charAt_5068e_21 : decode cJ0_charAt_5068e 21 = .ok (.invokestatic 498, 3) := by decide +kernel
theorem dJ0_charAt_5068e_24 : decode cJ0_charAt_5068e 24 = .ok (.ireturn, 1) := by decide +kernel
theorem dJ0_coder_7d493_0 : decode cJ0_coder_7d493 0 = .ok (.getstatic 38, 3) := by decide +kernel
theorem dJ0_coder_7d493_3 : decode cJ0_coder_7d493 3 = .ok (.ifCond .eq 10, 3) := by decide +kernel
theorem dJ0_coder_7d493_6 : decode cJ0_coder_7d493 6 = .ok (.aload_n 0, 1) := by decide +kernel
theorem dJ0_coder_7d493_7 : decode cJ0_coder_7d493 7 = .ok (.getfield 15, 3) := by decide +kernel
theorem dJ0_coder_7d493_10 : decode cJ0_coder_7d493 10 = .ok (.goto 4, 3) := by decide +kernel
theorem dJ0_coder_7d493_13 : decode cJ0_coder_7d493 13 = .ok (.iconst 1, 1) := by decide +kernel
theorem dJ0_coder_7d493_14 : decode cJ0_coder_7d493 14 = .ok (.ireturn, 1) := by decide +kernel
theorem dJ0_isLatin1_aae02_0 : decode cJ0_isLatin1_aae02 0 = .ok (.getstatic 38, 3) := by decide +kernel
theorem dJ0_isLatin1_aae02_3 : decode cJ0_isLatin1_aae02 3 = .ok (.ifCond .eq 14, 3) := by decide +kernel
theorem dJ0_isLatin1_aae02_6 : decode cJ0_isLatin1_aae02 6 = .ok (.aload_n 0, 1) := by decide +kernel
theorem dJ0_isLatin1_aae02_7 : decode cJ0_isLatin1_aae02 7 = .ok (.getfield 15, 3) := by decide +kernel
theorem dJ0_isLatin1_aae02_10 : decode cJ0_isLatin1_aae02 10 = .ok (.ifCond .ne 7, 3) := by decide +kernel
theorem dJ0_isLatin1_aae02_13 : decode cJ0_isLatin1_aae02 13 = .ok (.iconst 1, 1) := by decide +kernel
theorem dJ0_isLatin1_aae02_14 : decode cJ0_isLatin1_aae02 14 = .ok (.goto 4, 3) := by decide +kernel
theorem dJ0_isLatin1_aae02_17 : decode cJ0_isLatin1_aae02 17 = .ok (.iconst 0, 1) := by decide +kernel
theorem dJ0_isLatin1_aae02_18 : decode cJ0_isLatin1_aae02 18 = .ok (.ireturn, 1) := by decide +kernel
theorem dJ0_checkIndex_df160_0 : decode cJ0_checkIndex_df160 0 = .ok (.iload_n 0, 1) := by decide +kernel
theorem dJ0_checkIndex_df160_1 : decode cJ0_checkIndex_df160 1 = .ok (.iload_n 1, 1) := by decide +kernel
theorem dJ0_checkIndex_df160_2 : decode cJ0_checkIndex_df160 2 = .ok (.getstatic 1053, 3) := by decide +kernel
theorem dJ0_checkIndex_df160_5 : decode cJ0_checkIndex_df160 5 = .ok (.invokestatic 1059, 3) := by decide +kernel
theorem dJ0_checkIndex_df160_8 : decode cJ0_checkIndex_df160 8 = .ok (.pop, 1) := by decide +kernel
theorem dJ0_checkIndex_df160_9 : decode cJ0_checkIndex_df160 9 = .ok (.return_, 1) := by decide +kernel
theorem dJ1_charAt_3b067_0 : decode cJ1_charAt_3b067 0 = .ok (.iload_n 1, 1) := by decide +kernel
theorem dJ1_charAt_3b067_1 : decode cJ1_charAt_3b067 1 = .ok (.aload_n 0, 1) := by decide +kernel
theorem dJ1_charAt_3b067_2 : decode cJ1_charAt_3b067 2 = .ok (.arraylength, 1) := by decide +kernel
theorem dJ1_charAt_3b067_3 : decode cJ1_charAt_3b067 3 = .ok (.invokestatic 9, 3) := by decide +kernel
theorem dJ1_charAt_3b067_6 : decode cJ1_charAt_3b067 6 = .ok (.aload_n 0, 1) := by decide +kernel
theorem dJ1_charAt_3b067_7 : decode cJ1_charAt_3b067 7 = .ok (.iload_n 1, 1) := by decide +kernel
theorem dJ1_charAt_3b067_8 : decode cJ1_charAt_3b067 8 = .ok (.baload, 1) := by decide +kernel
theorem dJ1_charAt_3b067_9 : decode cJ1_charAt_3b067 9 = .ok (.sipush 255, 3) := by decide +kernel
theorem dJ1_charAt_3b067_12 : decode cJ1_charAt_3b067 12 = .ok (.iand, 1) := by decide +kernel
theorem dJ1_charAt_3b067_13 : decode cJ1_charAt_3b067 13 = .ok (.i2c, 1) := by decide +kernel
theorem dJ1_charAt_3b067_14 : decode cJ1_charAt_3b067 14 = .ok (.ireturn, 1) := by decide +kernel
theorem dJ2_getChar_3b067_0 : decode cJ2_getChar_3b067 0 = .ok (.getstatic 44, 3) := by decide +kernel
theorem dJ2_getChar_3b067_3 : decode cJ2_getChar_3b067 3 = .ok (.ifCond .ne 25, 3) := by decide +kernel
theorem dJ2_getChar_3b067_6 : decode cJ2_getChar_3b067 6 = .ok (.iload_n 1, 1) := by decide +kernel
theorem dJ2_getChar_3b067_7 : decode cJ2_getChar_3b067 7 = .ok (.ifCond .lt 11, 3) := by decide +kernel
theorem dJ2_getChar_3b067_10 : decode cJ2_getChar_3b067 10 = .ok (.iload_n 1, 1) := by decide +kernel
theorem dJ2_getChar_3b067_11 : decode cJ2_getChar_3b067 11 = .ok (.aload_n 0, 1) := by decide +kernel
theorem dJ2_getChar_3b067_12 : decode cJ2_getChar_3b067 12 = .ok (.invokestatic 48, 3) := by decide +kernel
theorem dJ2_getChar_3b067_15 : decode cJ2_getChar_3b067 15 = .ok (.if_icmp .lt 13, 3) := by decide +kernel
theorem dJ2_getChar_3b067_18 : decode cJ2_getChar_3b067 18 = .ok (.new 52, 3) := by decide +kernel
theorem dJ2_getChar_3b067_21 : decode cJ2_getChar_3b067 21 = .ok (.dup, 1) := by decide +kernel
theorem dJ2_getChar_3b067_22 : decode cJ2_getChar_3b067 22 = .ok (.ldc 54, 2) := by decide +kernel
theorem dJ2_getChar_3b067_24 : decode cJ2_getChar_3b067 24 = .ok (.invokespecial 56, 3) := by decide +kernel
theorem dJ2_getChar_3b067_27 : decode cJ2_getChar_3b067 27 = .ok (.athrow, 1) := by decide +kernel
theorem dJ2_getChar_3b067_28 : decode cJ2_getChar_3b067 28 = .ok (.iload_n 1, 1) := by decide +kernel
theorem dJ2_getChar_3b067_29 : decode cJ2_getChar_3b067 29 = .ok (.iconst 1, 1) := by decide +kernel
theorem dJ2_getChar_3b067_30 : decode cJ2_getChar_3b067 30 = .ok (.ishl, 1) := by decide +kernel
theorem dJ2_getChar_3b067_31 : decode cJ2_getChar_3b067 31 = .ok (.istore_n 1, 1) := by decide +kernel
theorem dJ2_getChar_3b067_32 : decode cJ2_getChar_3b067 32 = .ok (.aload_n 0, 1) := by decide +kernel
theorem dJ2_getChar_3b067_33 : decode cJ2_getChar_3b067 33 = .ok (.iload_n 1, 1) := by decide +kernel
theorem dJ2_getChar_3b067_34 : decode cJ2_getChar_3b067 34 = .ok (.iinc 1 1, 3) := by decide +kernel
theorem dJ2_getChar_3b067_37 : decode cJ2_getChar_3b067 37 = .ok (.baload, 1) := by decide +kernel
theorem dJ2_getChar_3b067_38 : decode cJ2_getChar_3b067 38 = .ok (.sipush 255, 3) := by decide +kernel
theorem dJ2_getChar_3b067_41 : decode cJ2_getChar_3b067 41 = .ok (.iand, 1) := by decide +kernel
theorem dJ2_getChar_3b067_42 : decode cJ2_getChar_3b067 42 = .ok (.getstatic 59, 3) := by decide +kernel
theorem dJ2_getChar_3b067_45 : decode cJ2_getChar_3b067 45 = .ok (.ishl, 1) := by decide +kernel
theorem dJ2_getChar_3b067_46 : decode cJ2_getChar_3b067 46 = .ok (.aload_n 0, 1) := by decide +kernel
theorem dJ2_getChar_3b067_47 : decode cJ2_getChar_3b067 47 = .ok (.iload_n 1, 1) := by decide +kernel
theorem dJ2_getChar_3b067_48 : decode cJ2_getChar_3b067 48 = .ok (.baload, 1) := by decide +kernel
theorem dJ2_getChar_3b067_49 : decode cJ2_getChar_3b067 49 = .ok (.sipush 255, 3) := by decide +kernel
theorem dJ2_getChar_3b067_52 : decode cJ2_getChar_3b067 52 = .ok (.iand, 1) := by decide +kernel
theorem dJ2_getChar_3b067_53 : decode cJ2_getChar_3b067 53 = .ok (.getstatic 63, 3) := by decide +kernel
theorem dJ2_getChar_3b067_56 : decode cJ2_getChar_3b067 56 = .ok (.ishl, 1) := by decide +kernel
theorem dJ2_getChar_3b067_57 : decode cJ2_getChar_3b067 57 = .ok (.ior, 1) := by decide +kernel
theorem dJ2_getChar_3b067_58 : decode cJ2_getChar_3b067 58 = .ok (.i2c, 1) := by decide +kernel
theorem dJ2_getChar_3b067_59 : decode cJ2_getChar_3b067 59 = .ok (.ireturn, 1) := by decide +kernel
theorem dJ2_length_9d52b_0 : decode cJ2_length_9d52b 0 = .ok (.aload_n 0, 1) := by decide +kernel
theorem dJ2_length_9d52b_1 : decode cJ2_length_9d52b 1 = .ok (.arraylength, 1) := by decide +kernel
theorem dJ2_length_9d52b_2 : decode cJ2_length_9d52b 2 = .ok (.iconst 1, 1) := by decide +kernel
theorem dJ2_length_9d52b_3 : decode cJ2_length_9d52b 3 = .ok (.ishr, 1) := by decide +kernel
theorem dJ2_length_9d52b_4 : decode cJ2_length_9d52b 4 = .ok (.ireturn, 1) := by decide +kernel
theorem dJ2_charAt_3b067_0 : decode cJ2_charAt_3b067 0 = .ok (.iload_n 1, 1) := by decide +kernel
theorem dJ2_charAt_3b067_1 : decode cJ2_charAt_3b067 1 = .ok (.aload_n 0, 1) := by decide +kernel
theorem dJ2_charAt_3b067_2 : decode cJ2_charAt_3b067 2 = .ok (.invokestatic 67, 3) := by decide +kernel
theorem dJ2_charAt_3b067_5 : decode cJ2_charAt_3b067 5 = .ok (.aload_n 0, 1) := by decide +kernel
theorem dJ2_charAt_3b067_6 : decode cJ2_charAt_3b067 6 = .ok (.iload_n 1, 1) := by decide +kernel
theorem dJ2_charAt_3b067_7 : decode cJ2_charAt_3b067 7 = .ok (.invokestatic 71, 3) := by decide +kernel
theorem dJ2_charAt_3b067_10 : decode cJ2_charAt_3b067 10 = .ok (.ireturn, 1) := by decide +kernel
theorem dJ2_checkIndex_2214a_0 : decode cJ2_checkIndex_2214a 0 = .ok (.iload_n 0, 1) := by decide +kernel
theorem dJ2_checkIndex_2214a_1 : decode cJ2_checkIndex_2214a 1 = .ok (.aload_n 1, 1) := by decide +kernel
theorem dJ2_checkIndex_2214a_2 : decode cJ2_checkIndex_2214a 2 = .ok (.invokestatic 48, 3) := by decide +kernel
theorem dJ2_checkIndex_2214a_5 : decode cJ2_checkIndex_2214a 5 = .ok (.invokestatic 414, 3) := by decide +kernel
theorem dJ2_checkIndex_2214a_8 : decode cJ2_checkIndex_2214a 8 = .ok (.return_, 1) := by decide +kernel
theorem dJ7_fill_53178_0 : decode cJ7_fill_53178 0 = .ok (.iconst 0, 1) := by decide +kernel
theorem dJ7_fill_53178_1 : decode cJ7_fill_53178 1 = .ok (.istore_n 2, 1) := by decide +kernel
theorem dJ7_fill_53178_2 : decode cJ7_fill_53178 2 = .ok (.aload_n 0, 1) := by decide +kernel
theorem dJ7_fill_53178_3 : decode cJ7_fill_53178 3 = .ok (.arraylength, 1) := by decide +kernel
theorem dJ7_fill_53178_4 : decode cJ7_fill_53178 4 = .ok (.istore_n 3, 1) := by decide +kernel
theorem dJ7_fill_53178_5 : decode cJ7_fill_53178 5 = .ok (.iload_n 2, 1) := by decide +kernel
theorem dJ7_fill_53178_6 : decode cJ7_fill_53178 6 = .ok (.iload_n 3, 1) := by decide +kernel
theorem dJ7_fill_53178_7 : decode cJ7_fill_53178 7 = .ok (.if_icmp .ge 13, 3) := by decide +kernel
theorem dJ7_fill_53178_10 : decode cJ7_fill_53178 10 = .ok (.aload_n 0, 1) := by decide +kernel
theorem dJ7_fill_53178_11 : decode cJ7_fill_53178 11 = .ok (.iload_n 2, 1) := by decide +kernel
theorem dJ7_fill_53178_12 : decode cJ7_fill_53178 12 = .ok (.iload_n 1, 1) := by decide +kernel
theorem dJ7_fill_53178_13 : decode cJ7_fill_53178 13 = .ok (.iastore, 1) := by decide +kernel
theorem dJ7_fill_53178_14 : decode cJ7_fill_53178 14 = .ok (.iinc 2 1, 3) := by decide +kernel
theorem dJ7_fill_53178_17 : decode cJ7_fill_53178 17 = .ok (.goto (-12), 3) := by decide +kernel
theorem dJ7_fill_53178_20 : decode cJ7_fill_53178 20 = .ok (.return_, 1) := by decide +kernel
theorem dJ3_checkIndex_8e157_0 : decode cJ3_checkIndex_8e157 0 = .ok (.iload_n 0, 1) := by decide +kernel
theorem dJ3_checkIndex_8e157_1 : decode cJ3_checkIndex_8e157 1 = .ok (.ifCond .lt 8, 3) := by decide +kernel
theorem dJ3_checkIndex_8e157_4 : decode cJ3_checkIndex_8e157 4 = .ok (.iload_n 0, 1) := by decide +kernel
theorem dJ3_checkIndex_8e157_5 : decode cJ3_checkIndex_8e157 5 = .ok (.iload_n 1, 1) := by decide +kernel
theorem dJ3_checkIndex_8e157_6 : decode cJ3_checkIndex_8e157 6 = .ok (.if_icmp .lt 10, 3) := by decide +kernel
theorem dJ3_checkIndex_8e157_9 : decode cJ3_checkIndex_8e157 9 = .ok (.aload_n 2, 1) := by decide +kernel
theorem dJ3_checkIndex_8e157_10 : decode cJ3_checkIndex_8e157 10 = .ok (.iload_n 0, 1) := by decide +kernel
theorem dJ3_checkIndex_8e157_11 : decode cJ3_checkIndex_8e157 11 = .ok (.iload_n 1, 1) := by decide +kernel
theorem dJ3_checkIndex_8e157_12 : decode cJ3_checkIndex_8e157 12 = .ok (.invokestatic 95, 3) := by decide +kernel
theorem dJ3_checkIndex_8e157_15 : decode cJ3_checkIndex_8e157 15 = .ok (.athrow, 1) := by decide +kernel
theorem dJ3_checkIndex_8e157_16 : decode cJ3_checkIndex_8e157 16 = .ok (.iload_n 0, 1) := by decide +kernel
theorem dJ3_checkIndex_8e157_17 : decode cJ3_checkIndex_8e157 17 = .ok (.ireturn, 1) := by decide +kernel
theorem dL_begin_0 : decode cL_begin 0 = .ok (.aload_n 2, 1) := by decide +kernel
theorem dL_begin_1 : decode cL_begin 1 = .ok (.iconst 0, 1) := by decide +kernel
theorem dL_begin_2 : decode cL_begin 2 = .ok (.aload_n 0, 1) := by decide +kernel
theorem dL_begin_3 : decode cL_begin 3 = .ok (.iload_n 1, 1) := by decide +kernel
theorem dL_begin_4 : decode cL_begin 4 = .ok (.invokevirtual 7, 3) := by decide +kernel
theorem dL_begin_7 : decode cL_begin 7 = .ok (.i2l, 1) := by decide +kernel
theorem dL_begin_8 : decode cL_begin 8 = .ok (.lastore, 1) := by decide +kernel
theorem dL_begin_9 : decode cL_begin 9 = .ok (.goto 6, 3) := by decide +kernel
theorem dL_begin_12 : decode cL_begin 12 = .ok (.astore_n 3, 1) := by decide +kernel
theorem dL_begin_13 : decode cL_begin 13 = .ok (.iconst 1, 1) := by decide +kernel
theorem dL_begin_14 : decode cL_begin 14 = .ok (.ireturn, 1) := by decide +kernel
theorem dL_begin_15 : decode cL_begin 15 = .ok (.iconst 0, 1) := by decide +kernel
theorem dL_begin_16 : decode cL_begin 16 = .ok (.ireturn, 1) := by decide +kernel
theorem dL_give_0 : decode cL_give 0 = .ok (.aload 5, 2) := by decide +kernel
theorem dL_give_2 : decode cL_give 2 = .ok (.iconst 0, 1) := by decide +kernel
theorem dL_give_3 : decode cL_give 3 = .ok (.aload_n 0, 1) := by decide +kernel
theorem dL_give_4 : decode cL_give 4 = .ok (.iload_n 1, 1) := by decide +kernel
theorem dL_give_5 : decode cL_give 5 = .ok (.iload_n 2, 1) := by decide +kernel
theorem dL_give_6 : decode cL_give 6 = .ok (.iload_n 3, 1) := by decide +kernel
theorem dL_give_7 : decode cL_give 7 = .ok (.iload 4, 2) := by decide +kernel
theorem dL_give_9 : decode cL_give 9 = .ok (.invokevirtual 15, 3) := by decide +kernel
theorem dL_give_12 : decode cL_give 12 = .ok (.i2l, 1) := by decide +kernel
theorem dL_give_13 : decode cL_give 13 = .ok (.lastore, 1) := by decide +kernel
theorem dL_give_14 : decode cL_give 14 = .ok (.goto 11, 3) := by decide +kernel
theorem dL_give_17 : decode cL_give 17 = .ok (.astore 6, 2) := by decide +kernel
theorem dL_give_19 : decode cL_give 19 = .ok (.iconst 1, 1) := by decide +kernel
theorem dL_give_20 : decode cL_give 20 = .ok (.ireturn, 1) := by decide +kernel
theorem dL_give_21 : decode cL_give 21 = .ok (.astore 6, 2) := by decide +kernel
theorem dL_give_23 : decode cL_give 23 = .ok (.iconst 2, 1) := by decide +kernel
theorem dL_give_24 : decode cL_give 24 = .ok (.ireturn, 1) := by decide +kernel
theorem dL_give_25 : decode cL_give 25 = .ok (.iconst 0, 1) := by decide +kernel
theorem dL_give_26 : decode cL_give 26 = .ok (.ireturn, 1) := by decide +kernel
theorem dL_drop_0 : decode cL_drop 0 = .ok (.aload 4, 2) := by decide +kernel
theorem dL_drop_2 : decode cL_drop 2 = .ok (.iconst 0, 1) := by decide +kernel
theorem dL_drop_3 : decode cL_drop 3 = .ok (.aload_n 0, 1) := by decide +kernel
theorem dL_drop_4 : decode cL_drop 4 = .ok (.iload_n 1, 1) := by decide +kernel
theorem dL_drop_5 : decode cL_drop 5 = .ok (.iload_n 2, 1) := by decide +kernel
theorem dL_drop_6 : decode cL_drop 6 = .ok (.iload_n 3, 1) := by decide +kernel
theorem dL_drop_7 : decode cL_drop 7 = .ok (.invokevirtual 21, 3) := by decide +kernel
theorem dL_drop_10 : decode cL_drop 10 = .ok (.i2l, 1) := by decide +kernel
theorem dL_drop_11 : decode cL_drop 11 = .ok (.lastore, 1) := by decide +kernel
theorem dL_drop_12 : decode cL_drop 12 = .ok (.goto 15, 3) := by decide +kernel
theorem dL_drop_15 : decode cL_drop 15 = .ok (.astore 5, 2) := by decide +kernel
theorem dL_drop_17 : decode cL_drop 17 = .ok (.iconst 1, 1) := by decide +kernel
theorem dL_drop_18 : decode cL_drop 18 = .ok (.ireturn, 1) := by decide +kernel
theorem dL_drop_19 : decode cL_drop 19 = .ok (.astore 5, 2) := by decide +kernel
theorem dL_drop_21 : decode cL_drop 21 = .ok (.iconst 2, 1) := by decide +kernel
theorem dL_drop_22 : decode cL_drop 22 = .ok (.ireturn, 1) := by decide +kernel
theorem dL_drop_23 : decode cL_drop 23 = .ok (.astore 5, 2) := by decide +kernel
theorem dL_drop_25 : decode cL_drop 25 = .ok (.iconst 3, 1) := by decide +kernel
theorem dL_drop_26 : decode cL_drop 26 = .ok (.ireturn, 1) := by decide +kernel
theorem dL_drop_27 : decode cL_drop 27 = .ok (.iconst 0, 1) := by decide +kernel
theorem dL_drop_28 : decode cL_drop 28 = .ok (.ireturn, 1) := by decide +kernel
theorem dL_turn_0 : decode cL_turn 0 = .ok (.aload_n 2, 1) := by decide +kernel
theorem dL_turn_1 : decode cL_turn 1 = .ok (.iconst 0, 1) := by decide +kernel
theorem dL_turn_2 : decode cL_turn 2 = .ok (.aload_n 0, 1) := by decide +kernel
theorem dL_turn_3 : decode cL_turn 3 = .ok (.iload_n 1, 1) := by decide +kernel
theorem dL_turn_4 : decode cL_turn 4 = .ok (.invokevirtual 27, 3) := by decide +kernel
theorem dL_turn_7 : decode cL_turn 7 = .ok (.i2l, 1) := by decide +kernel
theorem dL_turn_8 : decode cL_turn 8 = .ok (.lastore, 1) := by decide +kernel
theorem dL_turn_9 : decode cL_turn 9 = .ok (.goto 6, 3) := by decide +kernel
theorem dL_turn_12 : decode cL_turn 12 = .ok (.astore_n 3, 1) := by decide +kernel
theorem dL_turn_13 : decode cL_turn 13 = .ok (.iconst 1, 1) := by decide +kernel
theorem dL_turn_14 : decode cL_turn 14 = .ok (.ireturn, 1) := by decide +kernel
theorem dL_turn_15 : decode cL_turn 15 = .ok (.iconst 0, 1) := by decide +kernel
theorem dL_turn_16 : decode cL_turn 16 = .ok (.ireturn, 1) := by decide +kernel
theorem dL_exchange_0 : decode cL_exchange 0 = .ok (.aload_n 3, 1) := by decide +kernel
theorem dL_exchange_1 : decode cL_exchange 1 = .ok (.iconst 0, 1) := by decide +kernel
theorem dL_exchange_2 : decode cL_exchange 2 = .ok (.aload_n 0, 1) := by decide +kernel
theorem dL_exchange_3 : decode cL_exchange 3 = .ok (.iload_n 1, 1) := by decide +kernel
theorem dL_exchange_4 : decode cL_exchange 4 = .ok (.iload_n 2, 1) := by decide +kernel
theorem dL_exchange_5 : decode cL_exchange 5 = .ok (.invokevirtual 30, 3) := by decide +kernel
theorem dL_exchange_8 : decode cL_exchange 8 = .ok (.i2l, 1) := by decide +kernel
theorem dL_exchange_9 : decode cL_exchange 9 = .ok (.lastore, 1) := by decide +kernel
theorem dL_exchange_10 : decode cL_exchange 10 = .ok (.goto 11, 3) := by decide +kernel
theorem dL_exchange_13 : decode cL_exchange 13 = .ok (.astore 4, 2) := by decide +kernel
theorem dL_exchange_15 : decode cL_exchange 15 = .ok (.iconst 1, 1) := by decide +kernel
theorem dL_exchange_16 : decode cL_exchange 16 = .ok (.ireturn, 1) := by decide +kernel
theorem dL_exchange_17 : decode cL_exchange 17 = .ok (.astore 4, 2) := by decide +kernel
theorem dL_exchange_19 : decode cL_exchange 19 = .ok (.iconst 2, 1) := by decide +kernel
theorem dL_exchange_20 : decode cL_exchange 20 = .ok (.ireturn, 1) := by decide +kernel
theorem dL_exchange_21 : decode cL_exchange 21 = .ok (.iconst 0, 1) := by decide +kernel
theorem dL_exchange_22 : decode cL_exchange 22 = .ok (.ireturn, 1) := by decide +kernel
theorem dL_sign_0 : decode cL_sign 0 = .ok (.aload 4, 2) := by decide +kernel
theorem dL_sign_2 : decode cL_sign 2 = .ok (.iconst 0, 1) := by decide +kernel
theorem dL_sign_3 : decode cL_sign 3 = .ok (.aload_n 0, 1) := by decide +kernel
theorem dL_sign_4 : decode cL_sign 4 = .ok (.iload_n 1, 1) := by decide +kernel
theorem dL_sign_5 : decode cL_sign 5 = .ok (.iload_n 2, 1) := by decide +kernel
theorem dL_sign_6 : decode cL_sign 6 = .ok (.iload_n 3, 1) := by decide +kernel
theorem dL_sign_7 : decode cL_sign 7 = .ok (.invokevirtual 34, 3) := by decide +kernel
theorem dL_sign_10 : decode cL_sign 10 = .ok (.i2l, 1) := by decide +kernel
theorem dL_sign_11 : decode cL_sign 11 = .ok (.lastore, 1) := by decide +kernel
theorem dL_sign_12 : decode cL_sign 12 = .ok (.goto 7, 3) := by decide +kernel
theorem dL_sign_15 : decode cL_sign 15 = .ok (.astore 5, 2) := by decide +kernel
theorem dL_sign_17 : decode cL_sign 17 = .ok (.iconst 1, 1) := by decide +kernel
theorem dL_sign_18 : decode cL_sign 18 = .ok (.ireturn, 1) := by decide +kernel
theorem dL_sign_19 : decode cL_sign 19 = .ok (.iconst 0, 1) := by decide +kernel
theorem dL_sign_20 : decode cL_sign 20 = .ok (.ireturn, 1) := by decide +kernel
theorem dL_triple_0 : decode cL_triple 0 = .ok (.aload_n 3, 1) := by decide +kernel
theorem dL_triple_1 : decode cL_triple 1 = .ok (.iconst 0, 1) := by decide +kernel
theorem dL_triple_2 : decode cL_triple 2 = .ok (.aload_n 0, 1) := by decide +kernel
theorem dL_triple_3 : decode cL_triple 3 = .ok (.iload_n 1, 1) := by decide +kernel
theorem dL_triple_4 : decode cL_triple 4 = .ok (.iload_n 2, 1) := by decide +kernel
theorem dL_triple_5 : decode cL_triple 5 = .ok (.invokevirtual 37, 3) := by decide +kernel
theorem dL_triple_8 : decode cL_triple 8 = .ok (.i2l, 1) := by decide +kernel
theorem dL_triple_9 : decode cL_triple 9 = .ok (.lastore, 1) := by decide +kernel
theorem dL_triple_10 : decode cL_triple 10 = .ok (.goto 11, 3) := by decide +kernel
theorem dL_triple_13 : decode cL_triple 13 = .ok (.astore 4, 2) := by decide +kernel
theorem dL_triple_15 : decode cL_triple 15 = .ok (.iconst 1, 1) := by decide +kernel
theorem dL_triple_16 : decode cL_triple 16 = .ok (.ireturn, 1) := by decide +kernel
theorem dL_triple_17 : decode cL_triple 17 = .ok (.astore 4, 2) := by decide +kernel
theorem dL_triple_19 : decode cL_triple 19 = .ok (.iconst 2, 1) := by decide +kernel
theorem dL_triple_20 : decode cL_triple 20 = .ok (.ireturn, 1) := by decide +kernel
theorem dL_triple_21 : decode cL_triple 21 = .ok (.iconst 0, 1) := by decide +kernel
theorem dL_triple_22 : decode cL_triple 22 = .ok (.ireturn, 1) := by decide +kernel
theorem dL_reasons_0 : decode cL_reasons 0 = .ok (.aload_n 2, 1) := by decide +kernel
theorem dL_reasons_1 : decode cL_reasons 1 = .ok (.iconst 0, 1) := by decide +kernel
theorem dL_reasons_2 : decode cL_reasons 2 = .ok (.aload_n 0, 1) := by decide +kernel
theorem dL_reasons_3 : decode cL_reasons 3 = .ok (.iload_n 1, 1) := by decide +kernel
theorem dL_reasons_4 : decode cL_reasons 4 = .ok (.invokevirtual 40, 3) := by decide +kernel
theorem dL_reasons_7 : decode cL_reasons 7 = .ok (.lastore, 1) := by decide +kernel
theorem dL_reasons_8 : decode cL_reasons 8 = .ok (.goto 6, 3) := by decide +kernel
theorem dL_reasons_11 : decode cL_reasons 11 = .ok (.astore_n 3, 1) := by decide +kernel
theorem dL_reasons_12 : decode cL_reasons 12 = .ok (.iconst 1, 1) := by decide +kernel
theorem dL_reasons_13 : decode cL_reasons 13 = .ok (.ireturn, 1) := by decide +kernel
theorem dL_reasons_14 : decode cL_reasons 14 = .ok (.iconst 0, 1) := by decide +kernel
theorem dL_reasons_15 : decode cL_reasons 15 = .ok (.ireturn, 1) := by decide +kernel
theorem dL_count_0 : decode cL_count 0 = .ok (.aload_n 2, 1) := by decide +kernel
theorem dL_count_1 : decode cL_count 1 = .ok (.iconst 0, 1) := by decide +kernel
theorem dL_count_2 : decode cL_count 2 = .ok (.aload_n 0, 1) := by decide +kernel
theorem dL_count_3 : decode cL_count 3 = .ok (.iload_n 1, 1) := by decide +kernel
theorem dL_count_4 : decode cL_count 4 = .ok (.invokevirtual 44, 3) := by decide +kernel
theorem dL_count_7 : decode cL_count 7 = .ok (.i2l, 1) := by decide +kernel
theorem dL_count_8 : decode cL_count 8 = .ok (.lastore, 1) := by decide +kernel
theorem dL_count_9 : decode cL_count 9 = .ok (.goto 6, 3) := by decide +kernel
theorem dL_count_12 : decode cL_count 12 = .ok (.astore_n 3, 1) := by decide +kernel
theorem dL_count_13 : decode cL_count 13 = .ok (.iconst 1, 1) := by decide +kernel
theorem dL_count_14 : decode cL_count 14 = .ok (.ireturn, 1) := by decide +kernel
theorem dL_count_15 : decode cL_count 15 = .ok (.iconst 0, 1) := by decide +kernel
theorem dL_count_16 : decode cL_count 16 = .ok (.ireturn, 1) := by decide +kernel
theorem dL_relation_0 : decode cL_relation 0 = .ok (.aload_n 3, 1) := by decide +kernel
theorem dL_relation_1 : decode cL_relation 1 = .ok (.iconst 0, 1) := by decide +kernel
theorem dL_relation_2 : decode cL_relation 2 = .ok (.aload_n 0, 1) := by decide +kernel
theorem dL_relation_3 : decode cL_relation 3 = .ok (.iload_n 1, 1) := by decide +kernel
theorem dL_relation_4 : decode cL_relation 4 = .ok (.iload_n 2, 1) := by decide +kernel
theorem dL_relation_5 : decode cL_relation 5 = .ok (.invokevirtual 47, 3) := by decide +kernel
theorem dL_relation_8 : decode cL_relation 8 = .ok (.i2l, 1) := by decide +kernel
theorem dL_relation_9 : decode cL_relation 9 = .ok (.lastore, 1) := by decide +kernel
theorem dL_relation_10 : decode cL_relation 10 = .ok (.goto 11, 3) := by decide +kernel
theorem dL_relation_13 : decode cL_relation 13 = .ok (.astore 4, 2) := by decide +kernel
theorem dL_relation_15 : decode cL_relation 15 = .ok (.iconst 1, 1) := by decide +kernel
theorem dL_relation_16 : decode cL_relation 16 = .ok (.ireturn, 1) := by decide +kernel
theorem dL_relation_17 : decode cL_relation 17 = .ok (.astore 4, 2) := by decide +kernel
theorem dL_relation_19 : decode cL_relation 19 = .ok (.iconst 2, 1) := by decide +kernel
theorem dL_relation_20 : decode cL_relation 20 = .ok (.ireturn, 1) := by decide +kernel
theorem dL_relation_21 : decode cL_relation 21 = .ok (.iconst 0, 1) := by decide +kernel
theorem dL_relation_22 : decode cL_relation 22 = .ok (.ireturn, 1) := by decide +kernel
theorem dL_behind_0 : decode cL_behind 0 = .ok (.aload_n 2, 1) := by decide +kernel
theorem dL_behind_1 : decode cL_behind 1 = .ok (.iconst 0, 1) := by decide +kernel
theorem dL_behind_2 : decode cL_behind 2 = .ok (.aload_n 0, 1) := by decide +kernel
theorem dL_behind_3 : decode cL_behind 3 = .ok (.iload_n 1, 1) := by decide +kernel
theorem dL_behind_4 : decode cL_behind 4 = .ok (.invokevirtual 50, 3) := by decide +kernel
theorem dL_behind_7 : decode cL_behind 7 = .ok (.lastore, 1) := by decide +kernel
theorem dL_behind_8 : decode cL_behind 8 = .ok (.goto 6, 3) := by decide +kernel
theorem dL_behind_11 : decode cL_behind 11 = .ok (.astore_n 3, 1) := by decide +kernel
theorem dL_behind_12 : decode cL_behind 12 = .ok (.iconst 1, 1) := by decide +kernel
theorem dL_behind_13 : decode cL_behind 13 = .ok (.ireturn, 1) := by decide +kernel
theorem dL_behind_14 : decode cL_behind 14 = .ok (.iconst 0, 1) := by decide +kernel
theorem dL_behind_15 : decode cL_behind 15 = .ok (.ireturn, 1) := by decide +kernel
theorem dL_completions_0 : decode cL_completions 0 = .ok (.aload_n 1, 1) := by decide +kernel
theorem dL_completions_1 : decode cL_completions 1 = .ok (.iconst 0, 1) := by decide +kernel
theorem dL_completions_2 : decode cL_completions 2 = .ok (.aload_n 0, 1) := by decide +kernel
theorem dL_completions_3 : decode cL_completions 3 = .ok (.invokevirtual 53, 3) := by decide +kernel
theorem dL_completions_6 : decode cL_completions 6 = .ok (.i2l, 1) := by decide +kernel
theorem dL_completions_7 : decode cL_completions 7 = .ok (.lastore, 1) := by decide +kernel
theorem dL_completions_8 : decode cL_completions 8 = .ok (.goto 6, 3) := by decide +kernel
theorem dL_completions_11 : decode cL_completions 11 = .ok (.astore_n 2, 1) := by decide +kernel
theorem dL_completions_12 : decode cL_completions 12 = .ok (.iconst 1, 1) := by decide +kernel
theorem dL_completions_13 : decode cL_completions 13 = .ok (.ireturn, 1) := by decide +kernel
theorem dL_completions_14 : decode cL_completions 14 = .ok (.iconst 0, 1) := by decide +kernel
theorem dL_completions_15 : decode cL_completions 15 = .ok (.ireturn, 1) := by decide +kernel
theorem dL_cocircuit_0 : decode cL_cocircuit 0 = .ok (.aload_n 3, 1) := by decide +kernel
theorem dL_cocircuit_1 : decode cL_cocircuit 1 = .ok (.iconst 0, 1) := by decide +kernel
theorem dL_cocircuit_2 : decode cL_cocircuit 2 = .ok (.aload_n 0, 1) := by decide +kernel
theorem dL_cocircuit_3 : decode cL_cocircuit 3 = .ok (.iload_n 1, 1) := by decide +kernel
theorem dL_cocircuit_4 : decode cL_cocircuit 4 = .ok (.iload_n 2, 1) := by decide +kernel
theorem dL_cocircuit_5 : decode cL_cocircuit 5 = .ok (.invokevirtual 57, 3) := by decide +kernel
theorem dL_cocircuit_8 : decode cL_cocircuit 8 = .ok (.i2l, 1) := by decide +kernel
theorem dL_cocircuit_9 : decode cL_cocircuit 9 = .ok (.lastore, 1) := by decide +kernel
theorem dL_cocircuit_10 : decode cL_cocircuit 10 = .ok (.goto 15, 3) := by decide +kernel
theorem dL_cocircuit_13 : decode cL_cocircuit 13 = .ok (.astore 4, 2) := by decide +kernel
theorem dL_cocircuit_15 : decode cL_cocircuit 15 = .ok (.iconst 1, 1) := by decide +kernel
theorem dL_cocircuit_16 : decode cL_cocircuit 16 = .ok (.ireturn, 1) := by decide +kernel
theorem dL_cocircuit_17 : decode cL_cocircuit 17 = .ok (.astore 4, 2) := by decide +kernel
theorem dL_cocircuit_19 : decode cL_cocircuit 19 = .ok (.iconst 2, 1) := by decide +kernel
theorem dL_cocircuit_20 : decode cL_cocircuit 20 = .ok (.ireturn, 1) := by decide +kernel
theorem dL_cocircuit_21 : decode cL_cocircuit 21 = .ok (.astore 4, 2) := by decide +kernel
theorem dL_cocircuit_23 : decode cL_cocircuit 23 = .ok (.iconst 3, 1) := by decide +kernel
theorem dL_cocircuit_24 : decode cL_cocircuit 24 = .ok (.ireturn, 1) := by decide +kernel
theorem dL_cocircuit_25 : decode cL_cocircuit 25 = .ok (.iconst 0, 1) := by decide +kernel
theorem dL_cocircuit_26 : decode cL_cocircuit 26 = .ok (.ireturn, 1) := by decide +kernel
theorem dL_isExtreme_0 : decode cL_isExtreme 0 = .ok (.aload_n 2, 1) := by decide +kernel
theorem dL_isExtreme_1 : decode cL_isExtreme 1 = .ok (.iconst 0, 1) := by decide +kernel
theorem dL_isExtreme_2 : decode cL_isExtreme 2 = .ok (.aload_n 0, 1) := by decide +kernel
theorem dL_isExtreme_3 : decode cL_isExtreme 3 = .ok (.iload_n 1, 1) := by decide +kernel
theorem dL_isExtreme_4 : decode cL_isExtreme 4 = .ok (.invokevirtual 60, 3) := by decide +kernel
theorem dL_isExtreme_7 : decode cL_isExtreme 7 = .ok (.ifCond .eq 7, 3) := by decide +kernel
theorem dL_isExtreme_10 : decode cL_isExtreme 10 = .ok (.lconst 1, 1) := by decide +kernel
theorem dL_isExtreme_11 : decode cL_isExtreme 11 = .ok (.goto 4, 3) := by decide +kernel
theorem dL_isExtreme_14 : decode cL_isExtreme 14 = .ok (.lconst 0, 1) := by decide +kernel
theorem dL_isExtreme_15 : decode cL_isExtreme 15 = .ok (.lastore, 1) := by decide +kernel
theorem dL_isExtreme_16 : decode cL_isExtreme 16 = .ok (.goto 6, 3) := by decide +kernel
theorem dL_isExtreme_19 : decode cL_isExtreme 19 = .ok (.astore_n 3, 1) := by decide +kernel
theorem dL_isExtreme_20 : decode cL_isExtreme 20 = .ok (.iconst 1, 1) := by decide +kernel
theorem dL_isExtreme_21 : decode cL_isExtreme 21 = .ok (.ireturn, 1) := by decide +kernel
theorem dL_isExtreme_22 : decode cL_isExtreme 22 = .ok (.iconst 0, 1) := by decide +kernel
theorem dL_isExtreme_23 : decode cL_isExtreme 23 = .ok (.ireturn, 1) := by decide +kernel
theorem dL_lines_0 : decode cL_lines 0 = .ok (.aload_n 1, 1) := by decide +kernel
theorem dL_lines_1 : decode cL_lines 1 = .ok (.iconst 0, 1) := by decide +kernel
theorem dL_lines_2 : decode cL_lines 2 = .ok (.aload_n 0, 1) := by decide +kernel
theorem dL_lines_3 : decode cL_lines 3 = .ok (.invokevirtual 64, 3) := by decide +kernel
theorem dL_lines_6 : decode cL_lines 6 = .ok (.i2l, 1) := by decide +kernel
theorem dL_lines_7 : decode cL_lines 7 = .ok (.lastore, 1) := by decide +kernel
theorem dL_lines_8 : decode cL_lines 8 = .ok (.goto 6, 3) := by decide +kernel
theorem dL_lines_11 : decode cL_lines 11 = .ok (.astore_n 2, 1) := by decide +kernel
theorem dL_lines_12 : decode cL_lines 12 = .ok (.iconst 1, 1) := by decide +kernel
theorem dL_lines_13 : decode cL_lines 13 = .ok (.ireturn, 1) := by decide +kernel
theorem dL_lines_14 : decode cL_lines 14 = .ok (.iconst 0, 1) := by decide +kernel
theorem dL_lines_15 : decode cL_lines 15 = .ok (.ireturn, 1) := by decide +kernel
theorem dL_place_0 : decode cL_place 0 = .ok (.aload 4, 2) := by decide +kernel
theorem dL_place_2 : decode cL_place 2 = .ok (.iconst 0, 1) := by decide +kernel
theorem dL_place_3 : decode cL_place 3 = .ok (.aload_n 0, 1) := by decide +kernel
theorem dL_place_4 : decode cL_place 4 = .ok (.iload_n 1, 1) := by decide +kernel
theorem dL_place_5 : decode cL_place 5 = .ok (.iload_n 2, 1) := by decide +kernel
theorem dL_place_6 : decode cL_place 6 = .ok (.iload_n 3, 1) := by decide +kernel
theorem dL_place_7 : decode cL_place 7 = .ok (.invokevirtual 67, 3) := by decide +kernel
theorem dL_place_10 : decode cL_place 10 = .ok (.ifCond .eq 7, 3) := by decide +kernel
theorem dL_place_13 : decode cL_place 13 = .ok (.lconst 1, 1) := by decide +kernel
theorem dL_place_14 : decode cL_place 14 = .ok (.goto 4, 3) := by decide +kernel
theorem dL_place_17 : decode cL_place 17 = .ok (.lconst 0, 1) := by decide +kernel
theorem dL_place_18 : decode cL_place 18 = .ok (.lastore, 1) := by decide +kernel
theorem dL_place_19 : decode cL_place 19 = .ok (.goto 11, 3) := by decide +kernel
theorem dL_place_22 : decode cL_place 22 = .ok (.astore 5, 2) := by decide +kernel
theorem dL_place_24 : decode cL_place 24 = .ok (.iconst 1, 1) := by decide +kernel
theorem dL_place_25 : decode cL_place 25 = .ok (.ireturn, 1) := by decide +kernel
theorem dL_place_26 : decode cL_place 26 = .ok (.astore 5, 2) := by decide +kernel
theorem dL_place_28 : decode cL_place 28 = .ok (.iconst 2, 1) := by decide +kernel
theorem dL_place_29 : decode cL_place 29 = .ok (.ireturn, 1) := by decide +kernel
theorem dL_place_30 : decode cL_place 30 = .ok (.iconst 0, 1) := by decide +kernel
theorem dL_place_31 : decode cL_place 31 = .ok (.ireturn, 1) := by decide +kernel
theorem dL_coordinate_0 : decode cL_coordinate 0 = .ok (.aload_n 3, 1) := by decide +kernel
theorem dL_coordinate_1 : decode cL_coordinate 1 = .ok (.iconst 0, 1) := by decide +kernel
theorem dL_coordinate_2 : decode cL_coordinate 2 = .ok (.aload_n 0, 1) := by decide +kernel
theorem dL_coordinate_3 : decode cL_coordinate 3 = .ok (.iload_n 1, 1) := by decide +kernel
theorem dL_coordinate_4 : decode cL_coordinate 4 = .ok (.iload_n 2, 1) := by decide +kernel
theorem dL_coordinate_5 : decode cL_coordinate 5 = .ok (.invokevirtual 71, 3) := by decide +kernel
theorem dL_coordinate_8 : decode cL_coordinate 8 = .ok (.i2l, 1) := by decide +kernel
theorem dL_coordinate_9 : decode cL_coordinate 9 = .ok (.lastore, 1) := by decide +kernel
theorem dL_coordinate_10 : decode cL_coordinate 10 = .ok (.goto 11, 3) := by decide +kernel
theorem dL_coordinate_13 : decode cL_coordinate 13 = .ok (.astore 4, 2) := by decide +kernel
theorem dL_coordinate_15 : decode cL_coordinate 15 = .ok (.iconst 1, 1) := by decide +kernel
theorem dL_coordinate_16 : decode cL_coordinate 16 = .ok (.ireturn, 1) := by decide +kernel
theorem dL_coordinate_17 : decode cL_coordinate 17 = .ok (.astore 4, 2) := by decide +kernel
theorem dL_coordinate_19 : decode cL_coordinate 19 = .ok (.iconst 2, 1) := by decide +kernel
theorem dL_coordinate_20 : decode cL_coordinate 20 = .ok (.ireturn, 1) := by decide +kernel
theorem dL_coordinate_21 : decode cL_coordinate 21 = .ok (.iconst 0, 1) := by decide +kernel
theorem dL_coordinate_22 : decode cL_coordinate 22 = .ok (.ireturn, 1) := by decide +kernel
theorem dL_scatter_0 : decode cL_scatter 0 = .ok (.aload 4, 2) := by decide +kernel
theorem dL_scatter_2 : decode cL_scatter 2 = .ok (.iconst 0, 1) := by decide +kernel
theorem dL_scatter_3 : decode cL_scatter 3 = .ok (.aload_n 0, 1) := by decide +kernel
theorem dL_scatter_4 : decode cL_scatter 4 = .ok (.iload_n 1, 1) := by decide +kernel
theorem dL_scatter_5 : decode cL_scatter 5 = .ok (.iload_n 2, 1) := by decide +kernel
theorem dL_scatter_6 : decode cL_scatter 6 = .ok (.iload_n 3, 1) := by decide +kernel
theorem dL_scatter_7 : decode cL_scatter 7 = .ok (.invokevirtual 74, 3) := by decide +kernel
theorem dL_scatter_10 : decode cL_scatter 10 = .ok (.i2l, 1) := by decide +kernel
theorem dL_scatter_11 : decode cL_scatter 11 = .ok (.lastore, 1) := by decide +kernel
theorem dL_scatter_12 : decode cL_scatter 12 = .ok (.goto 7, 3) := by decide +kernel
theorem dL_scatter_15 : decode cL_scatter 15 = .ok (.astore 5, 2) := by decide +kernel
theorem dL_scatter_17 : decode cL_scatter 17 = .ok (.iconst 1, 1) := by decide +kernel
theorem dL_scatter_18 : decode cL_scatter 18 = .ok (.ireturn, 1) := by decide +kernel
theorem dL_scatter_19 : decode cL_scatter 19 = .ok (.iconst 0, 1) := by decide +kernel
theorem dL_scatter_20 : decode cL_scatter 20 = .ok (.ireturn, 1) := by decide +kernel
theorem dL_type_0 : decode cL_type 0 = .ok (.aload_n 2, 1) := by decide +kernel
theorem dL_type_1 : decode cL_type 1 = .ok (.iconst 0, 1) := by decide +kernel
theorem dL_type_2 : decode cL_type 2 = .ok (.aload_n 0, 1) := by decide +kernel
theorem dL_type_3 : decode cL_type 3 = .ok (.iload_n 1, 1) := by decide +kernel
theorem dL_type_4 : decode cL_type 4 = .ok (.invokevirtual 77, 3) := by decide +kernel
theorem dL_type_7 : decode cL_type 7 = .ok (.i2l, 1) := by decide +kernel
theorem dL_type_8 : decode cL_type 8 = .ok (.lastore, 1) := by decide +kernel
theorem dL_type_9 : decode cL_type 9 = .ok (.goto 9, 3) := by decide +kernel
theorem dL_type_12 : decode cL_type 12 = .ok (.astore_n 3, 1) := by decide +kernel
theorem dL_type_13 : decode cL_type 13 = .ok (.iconst 1, 1) := by decide +kernel
theorem dL_type_14 : decode cL_type 14 = .ok (.ireturn, 1) := by decide +kernel
theorem dL_type_15 : decode cL_type 15 = .ok (.astore_n 3, 1) := by decide +kernel
theorem dL_type_16 : decode cL_type 16 = .ok (.iconst 2, 1) := by decide +kernel
theorem dL_type_17 : decode cL_type 17 = .ok (.ireturn, 1) := by decide +kernel
theorem dL_type_18 : decode cL_type 18 = .ok (.iconst 0, 1) := by decide +kernel
theorem dL_type_19 : decode cL_type 19 = .ok (.ireturn, 1) := by decide +kernel
theorem dL_written_0 : decode cL_written 0 = .ok (.aload_n 2, 1) := by decide +kernel
theorem dL_written_1 : decode cL_written 1 = .ok (.iconst 0, 1) := by decide +kernel
theorem dL_written_2 : decode cL_written 2 = .ok (.aload_n 0, 1) := by decide +kernel
theorem dL_written_3 : decode cL_written 3 = .ok (.iload_n 1, 1) := by decide +kernel
theorem dL_written_4 : decode cL_written 4 = .ok (.invokevirtual 80, 3) := by decide +kernel
theorem dL_written_7 : decode cL_written 7 = .ok (.i2l, 1) := by decide +kernel
theorem dL_written_8 : decode cL_written 8 = .ok (.lastore, 1) := by decide +kernel
theorem dL_written_9 : decode cL_written 9 = .ok (.goto 6, 3) := by decide +kernel
theorem dL_written_12 : decode cL_written 12 = .ok (.astore_n 3, 1) := by decide +kernel
theorem dL_written_13 : decode cL_written 13 = .ok (.iconst 1, 1) := by decide +kernel
theorem dL_written_14 : decode cL_written 14 = .ok (.ireturn, 1) := by decide +kernel
theorem dL_written_15 : decode cL_written 15 = .ok (.iconst 0, 1) := by decide +kernel
theorem dL_written_16 : decode cL_written 16 = .ok (.ireturn, 1) := by decide +kernel
theorem dL_undo_0 : decode cL_undo 0 = .ok (.aload_n 1, 1) := by decide +kernel
theorem dL_undo_1 : decode cL_undo 1 = .ok (.iconst 0, 1) := by decide +kernel
theorem dL_undo_2 : decode cL_undo 2 = .ok (.aload_n 0, 1) := by decide +kernel
theorem dL_undo_3 : decode cL_undo 3 = .ok (.invokevirtual 83, 3) := by decide +kernel
theorem dL_undo_6 : decode cL_undo 6 = .ok (.i2l, 1) := by decide +kernel
theorem dL_undo_7 : decode cL_undo 7 = .ok (.lastore, 1) := by decide +kernel
theorem dL_undo_8 : decode cL_undo 8 = .ok (.goto 6, 3) := by decide +kernel
theorem dL_undo_11 : decode cL_undo 11 = .ok (.astore_n 2, 1) := by decide +kernel
theorem dL_undo_12 : decode cL_undo 12 = .ok (.iconst 1, 1) := by decide +kernel
theorem dL_undo_13 : decode cL_undo 13 = .ok (.ireturn, 1) := by decide +kernel
theorem dL_undo_14 : decode cL_undo 14 = .ok (.iconst 0, 1) := by decide +kernel
theorem dL_undo_15 : decode cL_undo 15 = .ok (.ireturn, 1) := by decide +kernel
theorem dL_law_0 : decode cL_law 0 = .ok (.new 8, 3) := by decide +kernel
theorem dL_law_3 : decode cL_law 3 = .ok (.dup, 1) := by decide +kernel
theorem dL_law_4 : decode cL_law 4 = .ok (.invokespecial 86, 3) := by decide +kernel
theorem dL_law_7 : decode cL_law 7 = .ok (.astore_n 1, 1) := by decide +kernel
theorem dL_law_8 : decode cL_law 8 = .ok (.new 87, 3) := by decide +kernel
theorem dL_law_11 : decode cL_law 11 = .ok (.dup, 1) := by decide +kernel
theorem dL_law_12 : decode cL_law 12 = .ok (.invokespecial 89, 3) := by decide +kernel
theorem dL_law_15 : decode cL_law 15 = .ok (.astore_n 2, 1) := by decide +kernel
theorem dL_law_16 : decode cL_law 16 = .ok (.iconst 1, 1) := by decide +kernel
theorem dL_law_17 : decode cL_law 17 = .ok (.newarray .long, 2) := by decide +kernel
theorem dL_law_19 : decode cL_law 19 = .ok (.astore_n 3, 1) := by decide +kernel
theorem dL_law_20 : decode cL_law 20 = .ok (.iconst 0, 1) := by decide +kernel
theorem dL_law_21 : decode cL_law 21 = .ok (.istore 4, 2) := by decide +kernel
theorem dL_law_23 : decode cL_law 23 = .ok (.iload 4, 2) := by decide +kernel
theorem dL_law_25 : decode cL_law 25 = .ok (.aload_n 0, 1) := by decide +kernel
theorem dL_law_26 : decode cL_law 26 = .ok (.arraylength, 1) := by decide +kernel
theorem dL_law_27 : decode cL_law 27 = .ok (.iconst 5, 1) := by decide +kernel
theorem dL_law_28 : decode cL_law 28 = .ok (.isub, 1) := by decide +kernel
theorem dL_law_29 : decode cL_law 29 = .ok (.if_icmp .gt 1639, 3) := by decide +kernel
theorem dL_law_32 : decode cL_law 32 = .ok (.aload_n 0, 1) := by decide +kernel
theorem dL_law_33 : decode cL_law 33 = .ok (.iload 4, 2) := by decide +kernel
theorem dL_law_35 : decode cL_law 35 = .ok (.iaload, 1) := by decide +kernel
theorem dL_law_36 : decode cL_law 36 = .ok (.bipush 31, 2) := by decide +kernel
theorem dL_law_38 : decode cL_law 38 = .ok (.iand, 1) := by decide +kernel
theorem dL_law_39 : decode cL_law 39 = .ok (.tableswitch 1623 0 29 #[133, 189, 281, 361, 402, 415, 428, 441, 497, 565, 645, 713, 768, 824, 892, 947, 991, 1059, 1122, 1166, 1253, 1321, 1334, 1347, 1427, 1483, 1496, 1509, 1565, 1609], 133) := by decide +kernel
theorem dL_law_172 : decode cL_law 172 = .ok (.aload_n 1, 1) := by decide +kernel
theorem dL_law_173 : decode cL_law 173 = .ok (.aload_n 0, 1) := by decide +kernel
theorem dL_law_174 : decode cL_law 174 = .ok (.iload 4, 2) := by decide +kernel
theorem dL_law_176 : decode cL_law 176 = .ok (.iconst 1, 1) := by decide +kernel
theorem dL_law_177 : decode cL_law 177 = .ok (.iadd, 1) := by decide +kernel
theorem dL_law_178 : decode cL_law 178 = .ok (.iaload, 1) := by decide +kernel
theorem dL_law_179 : decode cL_law 179 = .ok (.aload_n 3, 1) := by decide +kernel
theorem dL_law_180 : decode cL_law 180 = .ok (.invokestatic 90, 3) := by decide +kernel
theorem dL_law_183 : decode cL_law 183 = .ok (.istore 5, 2) := by decide +kernel
theorem dL_law_185 : decode cL_law 185 = .ok (.aload_n 2, 1) := by decide +kernel
theorem dL_law_186 : decode cL_law 186 = .ok (.aload_n 0, 1) := by decide +kernel
theorem dL_law_187 : decode cL_law 187 = .ok (.iload 4, 2) := by decide +kernel
theorem dL_law_189 : decode cL_law 189 = .ok (.iconst 1, 1) := by decide +kernel
theorem dL_law_190 : decode cL_law 190 = .ok (.iadd, 1) := by decide +kernel
theorem dL_law_191 : decode cL_law 191 = .ok (.iaload, 1) := by decide +kernel
theorem dL_law_192 : decode cL_law 192 = .ok (.invokevirtual 95, 3) := by decide +kernel
theorem dL_law_195 : decode cL_law 195 = .ok (.istore 6, 2) := by decide +kernel
theorem dL_law_197 : decode cL_law 197 = .ok (.aload_n 2, 1) := by decide +kernel
theorem dL_law_198 : decode cL_law 198 = .ok (.invokevirtual 96, 3) := by decide +kernel
theorem dL_law_201 : decode cL_law 201 = .ok (.iload 5, 2) := by decide +kernel
theorem dL_law_203 : decode cL_law 203 = .ok (.if_icmp .eq 5, 3) := by decide +kernel
theorem dL_law_206 : decode cL_law 206 = .ok (.iconst 0, 1) := by decide +kernel
theorem dL_law_207 : decode cL_law 207 = .ok (.ireturn, 1) := by decide +kernel
theorem dL_law_208 : decode cL_law 208 = .ok (.iload 5, 2) := by decide +kernel
theorem dL_law_210 : decode cL_law 210 = .ok (.ifCond .ne 15, 3) := by decide +kernel
theorem dL_law_213 : decode cL_law 213 = .ok (.aload_n 3, 1) := by decide +kernel
theorem dL_law_214 : decode cL_law 214 = .ok (.iconst 0, 1) := by decide +kernel
theorem dL_law_215 : decode cL_law 215 = .ok (.laload, 1) := by decide +kernel
theorem dL_law_216 : decode cL_law 216 = .ok (.iload 6, 2) := by decide +kernel
theorem dL_law_218 : decode cL_law 218 = .ok (.i2l, 1) := by decide +kernel
theorem dL_law_219 : decode cL_law 219 = .ok (.lcmp, 1) := by decide +kernel
theorem dL_law_220 : decode cL_law 220 = .ok (.ifCond .eq 5, 3) := by decide +kernel
theorem dL_law_223 : decode cL_law 223 = .ok (.iconst 0, 1) := by decide +kernel
theorem dL_law_224 : decode cL_law 224 = .ok (.ireturn, 1) := by decide +kernel
theorem dL_law_225 : decode cL_law 225 = .ok (.goto 1437, 3) := by decide +kernel
theorem dL_law_228 : decode cL_law 228 = .ok (.aload_n 1, 1) := by decide +kernel
theorem dL_law_229 : decode cL_law 229 = .ok (.aload_n 0, 1) := by decide +kernel
theorem dL_law_230 : decode cL_law 230 = .ok (.iload 4, 2) := by decide +kernel
theorem dL_law_232 : decode cL_law 232 = .ok (.iconst 1, 1) := by decide +kernel
theorem dL_law_233 : decode cL_law 233 = .ok (.iadd, 1) := by decide +kernel
theorem dL_law_234 : decode cL_law 234 = .ok (.iaload, 1) := by decide +kernel
theorem dL_law_235 : decode cL_law 235 = .ok (.aload_n 0, 1) := by decide +kernel
theorem dL_law_236 : decode cL_law 236 = .ok (.iload 4, 2) := by decide +kernel
theorem dL_law_238 : decode cL_law 238 = .ok (.iconst 2, 1) := by decide +kernel
theorem dL_law_239 : decode cL_law 239 = .ok (.iadd, 1) := by decide +kernel
theorem dL_law_240 : decode cL_law 240 = .ok (.iaload, 1) := by decide +kernel
theorem dL_law_241 : decode cL_law 241 = .ok (.aload_n 0, 1) := by decide +kernel
theorem dL_law_242 : decode cL_law 242 = .ok (.iload 4, 2) := by decide +kernel
theorem dL_law_244 : decode cL_law 244 = .ok (.iconst 3, 1) := by decide +kernel
theorem dL_law_245 : decode cL_law 245 = .ok (.iadd, 1) := by decide +kernel
theorem dL_law_246 : decode cL_law 246 = .ok (.iaload, 1) := by decide +kernel
theorem dL_law_247 : decode cL_law 247 = .ok (.aload_n 0, 1) := by decide +kernel
theorem dL_law_248 : decode cL_law 248 = .ok (.iload 4, 2) := by decide +kernel
theorem dL_law_250 : decode cL_law 250 = .ok (.iconst 4, 1) := by decide +kernel
theorem dL_law_251 : decode cL_law 251 = .ok (.iadd, 1) := by decide +kernel
theorem dL_law_252 : decode cL_law 252 = .ok (.iaload, 1) := by decide +kernel
theorem dL_law_253 : decode cL_law 253 = .ok (.aload_n 3, 1) := by decide +kernel
theorem dL_law_254 : decode cL_law 254 = .ok (.invokestatic 99, 3) := by decide +kernel
theorem dL_law_257 : decode cL_law 257 = .ok (.istore 5, 2) := by decide +kernel
theorem dL_law_259 : decode cL_law 259 = .ok (.aload_n 2, 1) := by decide +kernel
theorem dL_law_260 : decode cL_law 260 = .ok (.aload_n 0, 1) := by decide +kernel
theorem dL_law_261 : decode cL_law 261 = .ok (.iload 4, 2) := by decide +kernel
theorem dL_law_263 : decode cL_law 263 = .ok (.iconst 1, 1) := by decide +kernel
theorem dL_law_264 : decode cL_law 264 = .ok (.iadd, 1) := by decide +kernel
theorem dL_law_265 : decode cL_law 265 = .ok (.iaload, 1) := by decide +kernel
theorem dL_law_266 : decode cL_law 266 = .ok (.aload_n 0, 1) := by decide +kernel
theorem dL_law_267 : decode cL_law 267 = .ok (.iload 4, 2) := by decide +kernel
theorem dL_law_269 : decode cL_law 269 = .ok (.iconst 2, 1) := by decide +kernel
theorem dL_law_270 : decode cL_law 270 = .ok (.iadd, 1) := by decide +kernel
theorem dL_law_271 : decode cL_law 271 = .ok (.iaload, 1) := by decide +kernel
theorem dL_law_272 : decode cL_law 272 = .ok (.aload_n 0, 1) := by decide +kernel
theorem dL_law_273 : decode cL_law 273 = .ok (.iload 4, 2) := by decide +kernel
theorem dL_law_275 : decode cL_law 275 = .ok (.iconst 3, 1) := by decide +kernel
theorem dL_law_276 : decode cL_law 276 = .ok (.iadd, 1) := by decide +kernel
theorem dL_law_277 : decode cL_law 277 = .ok (.iaload, 1) := by decide +kernel
theorem dL_law_278 : decode cL_law 278 = .ok (.aload_n 0, 1) := by decide +kernel
theorem dL_law_279 : decode cL_law 279 = .ok (.iload 4, 2) := by decide +kernel
theorem dL_law_281 : decode cL_law 281 = .ok (.iconst 4, 1) := by decide +kernel
theorem dL_law_282 : decode cL_law 282 = .ok (.iadd, 1) := by decide +kernel
theorem dL_law_283 : decode cL_law 283 = .ok (.iaload, 1) := by decide +kernel
theorem dL_law_284 : decode cL_law 284 = .ok (.invokevirtual 102, 3) := by decide +kernel
theorem dL_law_287 : decode cL_law 287 = .ok (.istore 6, 2) := by decide +kernel
theorem dL_law_289 : decode cL_law 289 = .ok (.aload_n 2, 1) := by decide +kernel
theorem dL_law_290 : decode cL_law 290 = .ok (.invokevirtual 96, 3) := by decide +kernel
theorem dL_law_293 : decode cL_law 293 = .ok (.iload 5, 2) := by decide +kernel
theorem dL_law_295 : decode cL_law 295 = .ok (.if_icmp .eq 5, 3) := by decide +kernel
theorem dL_law_298 : decode cL_law 298 = .ok (.iconst 0, 1) := by decide +kernel
theorem dL_law_299 : decode cL_law 299 = .ok (.ireturn, 1) := by decide +kernel
theorem dL_law_300 : decode cL_law 300 = .ok (.iload 5, 2) := by decide +kernel
theorem dL_law_302 : decode cL_law 302 = .ok (.ifCond .ne 15, 3) := by decide +kernel
theorem dL_law_305 : decode cL_law 305 = .ok (.aload_n 3, 1) := by decide +kernel
theorem dL_law_306 : decode cL_law 306 = .ok (.iconst 0, 1) := by decide +kernel
theorem dL_law_307 : decode cL_law 307 = .ok (.laload, 1) := by decide +kernel
theorem dL_law_308 : decode cL_law 308 = .ok (.iload 6, 2) := by decide +kernel
theorem dL_law_310 : decode cL_law 310 = .ok (.i2l, 1) := by decide +kernel
theorem dL_law_311 : decode cL_law 311 = .ok (.lcmp, 1) := by decide +kernel
theorem dL_law_312 : decode cL_law 312 = .ok (.ifCond .eq 5, 3) := by decide +kernel
theorem dL_law_315 : decode cL_law 315 = .ok (.iconst 0, 1) := by decide +kernel
theorem dL_law_316 : decode cL_law 316 = .ok (.ireturn, 1) := by decide +kernel
theorem dL_law_317 : decode cL_law 317 = .ok (.goto 1345, 3) := by decide +kernel
theorem dL_law_320 : decode cL_law 320 = .ok (.aload_n 1, 1) := by decide +kernel
theorem dL_law_321 : decode cL_law 321 = .ok (.aload_n 0, 1) := by decide +kernel
theorem dL_law_322 : decode cL_law 322 = .ok (.iload 4, 2) := by decide +kernel
theorem dL_law_324 : decode cL_law 324 = .ok (.iconst 1, 1) := by decide +kernel
theorem dL_law_325 : decode cL_law 325 = .ok (.iadd, 1) := by decide +kernel
theorem dL_law_326 : decode cL_law 326 = .ok (.iaload, 1) := by decide +kernel
theorem dL_law_327 : decode cL_law 327 = .ok (.aload_n 0, 1) := by decide +kernel
theorem dL_law_328 : decode cL_law 328 = .ok (.iload 4, 2) := by decide +kernel
theorem dL_law_330 : decode cL_law 330 = .ok (.iconst 2, 1) := by decide +kernel
theorem dL_law_331 : decode cL_law 331 = .ok (.iadd, 1) := by decide +kernel
theorem dL_law_332 : decode cL_law 332 = .ok (.iaload, 1) := by decide +kernel
theorem dL_law_333 : decode cL_law 333 = .ok (.aload_n 0, 1) := by decide +kernel
theorem dL_law_334 : decode cL_law 334 = .ok (.iload 4, 2) := by decide +kernel
theorem dL_law_336 : decode cL_law 336 = .ok (.iconst 3, 1) := by decide +kernel
theorem dL_law_337 : decode cL_law 337 = .ok (.iadd, 1) := by decide +kernel
theorem dL_law_338 : decode cL_law 338 = .ok (.iaload, 1) := by decide +kernel
theorem dL_law_339 : decode cL_law 339 = .ok (.aload_n 3, 1) := by decide +kernel
theorem dL_law_340 : decode cL_law 340 = .ok (.invokestatic 103, 3) := by decide +kernel
theorem dL_law_343 : decode cL_law 343 = .ok (.istore 5, 2) := by decide +kernel
theorem dL_law_345 : decode cL_law 345 = .ok (.aload_n 2, 1) := by decide +kernel
theorem dL_law_346 : decode cL_law 346 = .ok (.aload_n 0, 1) := by decide +kernel
theorem dL_law_347 : decode cL_law 347 = .ok (.iload 4, 2) := by decide +kernel
theorem dL_law_349 : decode cL_law 349 = .ok (.iconst 1, 1) := by decide +kernel
theorem dL_law_350 : decode cL_law 350 = .ok (.iadd, 1) := by decide +kernel
theorem dL_law_351 : decode cL_law 351 = .ok (.iaload, 1) := by decide +kernel
theorem dL_law_352 : decode cL_law 352 = .ok (.aload_n 0, 1) := by decide +kernel
theorem dL_law_353 : decode cL_law 353 = .ok (.iload 4, 2) := by decide +kernel
theorem dL_law_355 : decode cL_law 355 = .ok (.iconst 2, 1) := by decide +kernel
theorem dL_law_356 : decode cL_law 356 = .ok (.iadd, 1) := by decide +kernel
theorem dL_law_357 : decode cL_law 357 = .ok (.iaload, 1) := by decide +kernel
theorem dL_law_358 : decode cL_law 358 = .ok (.aload_n 0, 1) := by decide +kernel
theorem dL_law_359 : decode cL_law 359 = .ok (.iload 4, 2) := by decide +kernel
theorem dL_law_361 : decode cL_law 361 = .ok (.iconst 3, 1) := by decide +kernel
theorem dL_law_362 : decode cL_law 362 = .ok (.iadd, 1) := by decide +kernel
theorem dL_law_363 : decode cL_law 363 = .ok (.iaload, 1) := by decide +kernel
theorem dL_law_364 : decode cL_law 364 = .ok (.invokevirtual 106, 3) := by decide +kernel
theorem dL_law_367 : decode cL_law 367 = .ok (.istore 6, 2) := by decide +kernel
theorem dL_law_369 : decode cL_law 369 = .ok (.aload_n 2, 1) := by decide +kernel
theorem dL_law_370 : decode cL_law 370 = .ok (.invokevirtual 96, 3) := by decide +kernel
theorem dL_law_373 : decode cL_law 373 = .ok (.iload 5, 2) := by decide +kernel
theorem dL_law_375 : decode cL_law 375 = .ok (.if_icmp .eq 5, 3) := by decide +kernel
theorem dL_law_378 : decode cL_law 378 = .ok (.iconst 0, 1) := by decide +kernel
theorem dL_law_379 : decode cL_law 379 = .ok (.ireturn, 1) := by decide +kernel
theorem dL_law_380 : decode cL_law 380 = .ok (.iload 5, 2) := by decide +kernel
theorem dL_law_382 : decode cL_law 382 = .ok (.ifCond .ne 15, 3) := by decide +kernel
theorem dL_law_385 : decode cL_law 385 = .ok (.aload_n 3, 1) := by decide +kernel
theorem dL_law_386 : decode cL_law 386 = .ok (.iconst 0, 1) := by decide +kernel
theorem dL_law_387 : decode cL_law 387 = .ok (.laload, 1) := by decide +kernel
theorem dL_law_388 : decode cL_law 388 = .ok (.iload 6, 2) := by decide +kernel
theorem dL_law_390 : decode cL_law 390 = .ok (.i2l, 1) := by decide +kernel
theorem dL_law_391 : decode cL_law 391 = .ok (.lcmp, 1) := by decide +kernel
theorem dL_law_392 : decode cL_law 392 = .ok (.ifCond .eq 5, 3) := by decide +kernel
theorem dL_law_395 : decode cL_law 395 = .ok (.iconst 0, 1) := by decide +kernel
theorem dL_law_396 : decode cL_law 396 = .ok (.ireturn, 1) := by decide +kernel
theorem dL_law_397 : decode cL_law 397 = .ok (.goto 1265, 3) := by decide +kernel
theorem dL_law_400 : decode cL_law 400 = .ok (.aload_n 1, 1) := by decide +kernel
theorem dL_law_401 : decode cL_law 401 = .ok (.aload_n 0, 1) := by decide +kernel
theorem dL_law_402 : decode cL_law 402 = .ok (.iload 4, 2) := by decide +kernel
theorem dL_law_404 : decode cL_law 404 = .ok (.iconst 1, 1) := by decide +kernel
theorem dL_law_405 : decode cL_law 405 = .ok (.iadd, 1) := by decide +kernel
theorem dL_law_406 : decode cL_law 406 = .ok (.iaload, 1) := by decide +kernel
theorem dL_law_407 : decode cL_law 407 = .ok (.ifCond .eq 7, 3) := by decide +kernel
theorem dL_law_410 : decode cL_law 410 = .ok (.iconst 1, 1) := by decide +kernel
theorem dL_law_411 : decode cL_law 411 = .ok (.goto 4, 3) := by decide +kernel
theorem dL_law_414 : decode cL_law 414 = .ok (.iconst 0, 1) := by decide +kernel
theorem dL_law_415 : decode cL_law 415 = .ok (.invokevirtual 107, 3) := by decide +kernel
theorem dL_law_418 : decode cL_law 418 = .ok (.aload_n 2, 1) := by decide +kernel
theorem dL_law_419 : decode cL_law 419 = .ok (.aload_n 0, 1) := by decide +kernel
theorem dL_law_420 : decode cL_law 420 = .ok (.iload 4, 2) := by decide +kernel
theorem dL_law_422 : decode cL_law 422 = .ok (.iconst 1, 1) := by decide +kernel
theorem dL_law_423 : decode cL_law 423 = .ok (.iadd, 1) := by decide +kernel
theorem dL_law_424 : decode cL_law 424 = .ok (.iaload, 1) := by decide +kernel
theorem dL_law_425 : decode cL_law 425 = .ok (.ifCond .eq 7, 3) := by decide +kernel
theorem dL_law_428 : decode cL_law 428 = .ok (.iconst 1, 1) := by decide +kernel
theorem dL_law_429 : decode cL_law 429 = .ok (.goto 4, 3) := by decide +kernel
theorem dL_law_432 : decode cL_law 432 = .ok (.iconst 0, 1) := by decide +kernel
theorem dL_law_433 : decode cL_law 433 = .ok (.invokevirtual 111, 3) := by decide +kernel
theorem dL_law_436 : decode cL_law 436 = .ok (.if_icmp .eq 1226, 3) := by decide +kernel
theorem dL_law_439 : decode cL_law 439 = .ok (.iconst 0, 1) := by decide +kernel
theorem dL_law_440 : decode cL_law 440 = .ok (.ireturn, 1) := by decide +kernel
theorem dL_law_441 : decode cL_law 441 = .ok (.aload_n 1, 1) := by decide +kernel
theorem dL_law_442 : decode cL_law 442 = .ok (.invokevirtual 112, 3) := by decide +kernel
theorem dL_law_445 : decode cL_law 445 = .ok (.aload_n 2, 1) := by decide +kernel
theorem dL_law_446 : decode cL_law 446 = .ok (.invokevirtual 115, 3) := by decide +kernel
theorem dL_law_449 : decode cL_law 449 = .ok (.if_icmp .eq 1213, 3) := by decide +kernel
theorem dL_law_452 : decode cL_law 452 = .ok (.iconst 0, 1) := by decide +kernel
theorem dL_law_453 : decode cL_law 453 = .ok (.ireturn, 1) := by decide +kernel
theorem dL_law_454 : decode cL_law 454 = .ok (.aload_n 1, 1) := by decide +kernel
theorem dL_law_455 : decode cL_law 455 = .ok (.invokevirtual 116, 3) := by decide +kernel
theorem dL_law_458 : decode cL_law 458 = .ok (.aload_n 2, 1) := by decide +kernel
theorem dL_law_459 : decode cL_law 459 = .ok (.invokevirtual 119, 3) := by decide +kernel
theorem dL_law_462 : decode cL_law 462 = .ok (.if_icmp .eq 1200, 3) := by decide +kernel
theorem dL_law_465 : decode cL_law 465 = .ok (.iconst 0, 1) := by decide +kernel
theorem dL_law_466 : decode cL_law 466 = .ok (.ireturn, 1) := by decide +kernel
theorem dL_law_467 : decode cL_law 467 = .ok (.aload_n 1, 1) := by decide +kernel
theorem dL_law_468 : decode cL_law 468 = .ok (.invokevirtual 120, 3) := by decide +kernel
theorem dL_law_471 : decode cL_law 471 = .ok (.aload_n 2, 1) := by decide +kernel
theorem dL_law_472 : decode cL_law 472 = .ok (.invokevirtual 123, 3) := by decide +kernel
theorem dL_law_475 : decode cL_law 475 = .ok (.if_icmp .eq 1187, 3) := by decide +kernel
theorem dL_law_478 : decode cL_law 478 = .ok (.iconst 0, 1) := by decide +kernel
theorem dL_law_479 : decode cL_law 479 = .ok (.ireturn, 1) := by decide +kernel
theorem dL_law_480 : decode cL_law 480 = .ok (.aload_n 1, 1) := by decide +kernel
theorem dL_law_481 : decode cL_law 481 = .ok (.aload_n 0, 1) := by decide +kernel
theorem dL_law_482 : decode cL_law 482 = .ok (.iload 4, 2) := by decide +kernel
theorem dL_law_484 : decode cL_law 484 = .ok (.iconst 1, 1) := by decide +kernel
theorem dL_law_485 : decode cL_law 485 = .ok (.iadd, 1) := by decide +kernel
theorem dL_law_486 : decode cL_law 486 = .ok (.iaload, 1) := by decide +kernel
theorem dL_law_487 : decode cL_law 487 = .ok (.aload_n 3, 1) := by decide +kernel
theorem dL_law_488 : decode cL_law 488 = .ok (.invokestatic 124, 3) := by decide +kernel
theorem dL_law_491 : decode cL_law 491 = .ok (.istore 5, 2) := by decide +kernel
theorem dL_law_493 : decode cL_law 493 = .ok (.aload_n 2, 1) := by decide +kernel
theorem dL_law_494 : decode cL_law 494 = .ok (.aload_n 0, 1) := by decide +kernel
theorem dL_law_495 : decode cL_law 495 = .ok (.iload 4, 2) := by decide +kernel
theorem dL_law_497 : decode cL_law 497 = .ok (.iconst 1, 1) := by decide +kernel
theorem dL_law_498 : decode cL_law 498 = .ok (.iadd, 1) := by decide +kernel
theorem dL_law_499 : decode cL_law 499 = .ok (.iaload, 1) := by decide +kernel
theorem dL_law_500 : decode cL_law 500 = .ok (.invokevirtual 126, 3) := by decide +kernel
theorem dL_law_503 : decode cL_law 503 = .ok (.istore 6, 2) := by decide +kernel
theorem dL_law_505 : decode cL_law 505 = .ok (.aload_n 2, 1) := by decide +kernel
theorem dL_law_506 : decode cL_law 506 = .ok (.invokevirtual 96, 3) := by decide +kernel
theorem dL_law_509 : decode cL_law 509 = .ok (.iload 5, 2) := by decide +kernel
theorem dL_law_511 : decode cL_law 511 = .ok (.if_icmp .eq 5, 3) := by decide +kernel
theorem dL_law_514 : decode cL_law 514 = .ok (.iconst 0, 1) := by decide +kernel
theorem dL_law_515 : decode cL_law 515 = .ok (.ireturn, 1) := by decide +kernel
theorem dL_law_516 : decode cL_law 516 = .ok (.iload 5, 2) := by decide +kernel
theorem dL_law_518 : decode cL_law 518 = .ok (.ifCond .ne 15, 3) := by decide +kernel
theorem dL_law_521 : decode cL_law 521 = .ok (.aload_n 3, 1) := by decide +kernel
theorem dL_law_522 : decode cL_law 522 = .ok (.iconst 0, 1) := by decide +kernel
theorem dL_law_523 : decode cL_law 523 = .ok (.laload, 1) := by decide +kernel
theorem dL_law_524 : decode cL_law 524 = .ok (.iload 6, 2) := by decide +kernel
theorem dL_law_526 : decode cL_law 526 = .ok (.i2l, 1) := by decide +kernel
theorem dL_law_527 : decode cL_law 527 = .ok (.lcmp, 1) := by decide +kernel
theorem dL_law_528 : decode cL_law 528 = .ok (.ifCond .eq 5, 3) := by decide +kernel
theorem dL_law_531 : decode cL_law 531 = .ok (.iconst 0, 1) := by decide +kernel
theorem dL_law_532 : decode cL_law 532 = .ok (.ireturn, 1) := by decide +kernel
theorem dL_law_533 : decode cL_law 533 = .ok (.goto 1129, 3) := by decide +kernel
theorem dL_law_536 : decode cL_law 536 = .ok (.aload_n 1, 1) := by decide +kernel
theorem dL_law_537 : decode cL_law 537 = .ok (.aload_n 0, 1) := by decide +kernel
theorem dL_law_538 : decode cL_law 538 = .ok (.iload 4, 2) := by decide +kernel
theorem dL_law_540 : decode cL_law 540 = .ok (.iconst 1, 1) := by decide +kernel
theorem dL_law_541 : decode cL_law 541 = .ok (.iadd, 1) := by decide +kernel
theorem dL_law_542 : decode cL_law 542 = .ok (.iaload, 1) := by decide +kernel
theorem dL_law_543 : decode cL_law 543 = .ok (.aload_n 0, 1) := by decide +kernel
theorem dL_law_544 : decode cL_law 544 = .ok (.iload 4, 2) := by decide +kernel
theorem dL_law_546 : decode cL_law 546 = .ok (.iconst 2, 1) := by decide +kernel
theorem dL_law_547 : decode cL_law 547 = .ok (.iadd, 1) := by decide +kernel
theorem dL_law_548 : decode cL_law 548 = .ok (.iaload, 1) := by decide +kernel
theorem dL_law_549 : decode cL_law 549 = .ok (.aload_n 3, 1) := by decide +kernel
theorem dL_law_550 : decode cL_law 550 = .ok (.invokestatic 127, 3) := by decide +kernel
theorem dL_law_553 : decode cL_law 553 = .ok (.istore 5, 2) := by decide +kernel
theorem dL_law_555 : decode cL_law 555 = .ok (.aload_n 2, 1) := by decide +kernel
theorem dL_law_556 : decode cL_law 556 = .ok (.aload_n 0, 1) := by decide +kernel
theorem dL_law_557 : decode cL_law 557 = .ok (.iload 4, 2) := by decide +kernel
theorem dL_law_559 : decode cL_law 559 = .ok (.iconst 1, 1) := by decide +kernel
theorem dL_law_560 : decode cL_law 560 = .ok (.iadd, 1) := by decide +kernel
theorem dL_law_561 : decode cL_law 561 = .ok (.iaload, 1) := by decide +kernel
theorem dL_law_562 : decode cL_law 562 = .ok (.aload_n 0, 1) := by decide +kernel
theorem dL_law_563 : decode cL_law 563 = .ok (.iload 4, 2) := by decide +kernel
theorem dL_law_565 : decode cL_law 565 = .ok (.iconst 2, 1) := by decide +kernel
theorem dL_law_566 : decode cL_law 566 = .ok (.iadd, 1) := by decide +kernel
theorem dL_law_567 : decode cL_law 567 = .ok (.iaload, 1) := by decide +kernel
theorem dL_law_568 : decode cL_law 568 = .ok (.invokevirtual 130, 3) := by decide +kernel
theorem dL_law_571 : decode cL_law 571 = .ok (.istore 6, 2) := by decide +kernel
theorem dL_law_573 : decode cL_law 573 = .ok (.aload_n 2, 1) := by decide +kernel
theorem dL_law_574 : decode cL_law 574 = .ok (.invokevirtual 96, 3) := by decide +kernel
theorem dL_law_577 : decode cL_law 577 = .ok (.iload 5, 2) := by decide +kernel
theorem dL_law_579 : decode cL_law 579 = .ok (.if_icmp .eq 5, 3) := by decide +kernel
theorem dL_law_582 : decode cL_law 582 = .ok (.iconst 0, 1) := by decide +kernel
theorem dL_law_583 : decode cL_law 583 = .ok (.ireturn, 1) := by decide +kernel
theorem dL_law_584 : decode cL_law 584 = .ok (.iload 5, 2) := by decide +kernel
theorem dL_law_586 : decode cL_law 586 = .ok (.ifCond .ne 15, 3) := by decide +kernel
theorem dL_law_589 : decode cL_law 589 = .ok (.aload_n 3, 1) := by decide +kernel
theorem dL_law_590 : decode cL_law 590 = .ok (.iconst 0, 1) := by decide +kernel
theorem dL_law_591 : decode cL_law 591 = .ok (.laload, 1) := by decide +kernel
theorem dL_law_592 : decode cL_law 592 = .ok (.iload 6, 2) := by decide +kernel
theorem dL_law_594 : decode cL_law 594 = .ok (.i2l, 1) := by decide +kernel
theorem dL_law_595 : decode cL_law 595 = .ok (.lcmp, 1) := by decide +kernel
theorem dL_law_596 : decode cL_law 596 = .ok (.ifCond .eq 5, 3) := by decide +kernel
theorem dL_law_599 : decode cL_law 599 = .ok (.iconst 0, 1) := by decide +kernel
theorem dL_law_600 : decode cL_law 600 = .ok (.ireturn, 1) := by decide +kernel
theorem dL_law_601 : decode cL_law 601 = .ok (.goto 1061, 3) := by decide +kernel
theorem dL_law_604 : decode cL_law 604 = .ok (.aload_n 1, 1) := by decide +kernel
theorem dL_law_605 : decode cL_law 605 = .ok (.aload_n 0, 1) := by decide +kernel
theorem dL_law_606 : decode cL_law 606 = .ok (.iload 4, 2) := by decide +kernel
theorem dL_law_608 : decode cL_law 608 = .ok (.iconst 1, 1) := by decide +kernel
theorem dL_law_609 : decode cL_law 609 = .ok (.iadd, 1) := by decide +kernel
theorem dL_law_610 : decode cL_law 610 = .ok (.iaload, 1) := by decide +kernel
theorem dL_law_611 : decode cL_law 611 = .ok (.aload_n 0, 1) := by decide +kernel
theorem dL_law_612 : decode cL_law 612 = .ok (.iload 4, 2) := by decide +kernel
theorem dL_law_614 : decode cL_law 614 = .ok (.iconst 2, 1) := by decide +kernel
theorem dL_law_615 : decode cL_law 615 = .ok (.iadd, 1) := by decide +kernel
theorem dL_law_616 : decode cL_law 616 = .ok (.iaload, 1) := by decide +kernel
theorem dL_law_617 : decode cL_law 617 = .ok (.aload_n 0, 1) := by decide +kernel
theorem dL_law_618 : decode cL_law 618 = .ok (.iload 4, 2) := by decide +kernel
theorem dL_law_620 : decode cL_law 620 = .ok (.iconst 3, 1) := by decide +kernel
theorem dL_law_621 : decode cL_law 621 = .ok (.iadd, 1) := by decide +kernel
theorem dL_law_622 : decode cL_law 622 = .ok (.iaload, 1) := by decide +kernel
theorem dL_law_623 : decode cL_law 623 = .ok (.aload_n 3, 1) := by decide +kernel
theorem dL_law_624 : decode cL_law 624 = .ok (.invokestatic 131, 3) := by decide +kernel
theorem dL_law_627 : decode cL_law 627 = .ok (.istore 5, 2) := by decide +kernel
theorem dL_law_629 : decode cL_law 629 = .ok (.aload_n 2, 1) := by decide +kernel
theorem dL_law_630 : decode cL_law 630 = .ok (.aload_n 0, 1) := by decide +kernel
theorem dL_law_631 : decode cL_law 631 = .ok (.iload 4, 2) := by decide +kernel
theorem dL_law_633 : decode cL_law 633 = .ok (.iconst 1, 1) := by decide +kernel
theorem dL_law_634 : decode cL_law 634 = .ok (.iadd, 1) := by decide +kernel
theorem dL_law_635 : decode cL_law 635 = .ok (.iaload, 1) := by decide +kernel
theorem dL_law_636 : decode cL_law 636 = .ok (.aload_n 0, 1) := by decide +kernel
theorem dL_law_637 : decode cL_law 637 = .ok (.iload 4, 2) := by decide +kernel
theorem dL_law_639 : decode cL_law 639 = .ok (.iconst 2, 1) := by decide +kernel
theorem dL_law_640 : decode cL_law 640 = .ok (.iadd, 1) := by decide +kernel
theorem dL_law_641 : decode cL_law 641 = .ok (.iaload, 1) := by decide +kernel
theorem dL_law_642 : decode cL_law 642 = .ok (.aload_n 0, 1) := by decide +kernel
theorem dL_law_643 : decode cL_law 643 = .ok (.iload 4, 2) := by decide +kernel
theorem dL_law_645 : decode cL_law 645 = .ok (.iconst 3, 1) := by decide +kernel
theorem dL_law_646 : decode cL_law 646 = .ok (.iadd, 1) := by decide +kernel
theorem dL_law_647 : decode cL_law 647 = .ok (.iaload, 1) := by decide +kernel
theorem dL_law_648 : decode cL_law 648 = .ok (.invokevirtual 133, 3) := by decide +kernel
theorem dL_law_651 : decode cL_law 651 = .ok (.istore 6, 2) := by decide +kernel
theorem dL_law_653 : decode cL_law 653 = .ok (.aload_n 2, 1) := by decide +kernel
theorem dL_law_654 : decode cL_law 654 = .ok (.invokevirtual 96, 3) := by decide +kernel
theorem dL_law_657 : decode cL_law 657 = .ok (.iload 5, 2) := by decide +kernel
theorem dL_law_659 : decode cL_law 659 = .ok (.if_icmp .eq 5, 3) := by decide +kernel
theorem dL_law_662 : decode cL_law 662 = .ok (.iconst 0, 1) := by decide +kernel
theorem dL_law_663 : decode cL_law 663 = .ok (.ireturn, 1) := by decide +kernel
theorem dL_law_664 : decode cL_law 664 = .ok (.iload 5, 2) := by decide +kernel
theorem dL_law_666 : decode cL_law 666 = .ok (.ifCond .ne 15, 3) := by decide +kernel
theorem dL_law_669 : decode cL_law 669 = .ok (.aload_n 3, 1) := by decide +kernel
theorem dL_law_670 : decode cL_law 670 = .ok (.iconst 0, 1) := by decide +kernel
theorem dL_law_671 : decode cL_law 671 = .ok (.laload, 1) := by decide +kernel
theorem dL_law_672 : decode cL_law 672 = .ok (.iload 6, 2) := by decide +kernel
theorem dL_law_674 : decode cL_law 674 = .ok (.i2l, 1) := by decide +kernel
theorem dL_law_675 : decode cL_law 675 = .ok (.lcmp, 1) := by decide +kernel
theorem dL_law_676 : decode cL_law 676 = .ok (.ifCond .eq 5, 3) := by decide +kernel
theorem dL_law_679 : decode cL_law 679 = .ok (.iconst 0, 1) := by decide +kernel
theorem dL_law_680 : decode cL_law 680 = .ok (.ireturn, 1) := by decide +kernel
theorem dL_law_681 : decode cL_law 681 = .ok (.goto 981, 3) := by decide +kernel
theorem dL_law_684 : decode cL_law 684 = .ok (.aload_n 1, 1) := by decide +kernel
theorem dL_law_685 : decode cL_law 685 = .ok (.aload_n 0, 1) := by decide +kernel
theorem dL_law_686 : decode cL_law 686 = .ok (.iload 4, 2) := by decide +kernel
theorem dL_law_688 : decode cL_law 688 = .ok (.iconst 1, 1) := by decide +kernel
theorem dL_law_689 : decode cL_law 689 = .ok (.iadd, 1) := by decide +kernel
theorem dL_law_690 : decode cL_law 690 = .ok (.iaload, 1) := by decide +kernel
theorem dL_law_691 : decode cL_law 691 = .ok (.aload_n 0, 1) := by decide +kernel
theorem dL_law_692 : decode cL_law 692 = .ok (.iload 4, 2) := by decide +kernel
theorem dL_law_694 : decode cL_law 694 = .ok (.iconst 2, 1) := by decide +kernel
theorem dL_law_695 : decode cL_law 695 = .ok (.iadd, 1) := by decide +kernel
theorem dL_law_696 : decode cL_law 696 = .ok (.iaload, 1) := by decide +kernel
theorem dL_law_697 : decode cL_law 697 = .ok (.aload_n 3, 1) := by decide +kernel
theorem dL_law_698 : decode cL_law 698 = .ok (.invokestatic 134, 3) := by decide +kernel
theorem dL_law_701 : decode cL_law 701 = .ok (.istore 5, 2) := by decide +kernel
theorem dL_law_703 : decode cL_law 703 = .ok (.aload_n 2, 1) := by decide +kernel
theorem dL_law_704 : decode cL_law 704 = .ok (.aload_n 0, 1) := by decide +kernel
theorem dL_law_705 : decode cL_law 705 = .ok (.iload 4, 2) := by decide +kernel
theorem dL_law_707 : decode cL_law 707 = .ok (.iconst 1, 1) := by decide +kernel
theorem dL_law_708 : decode cL_law 708 = .ok (.iadd, 1) := by decide +kernel
theorem dL_law_709 : decode cL_law 709 = .ok (.iaload, 1) := by decide +kernel
theorem dL_law_710 : decode cL_law 710 = .ok (.aload_n 0, 1) := by decide +kernel
theorem dL_law_711 : decode cL_law 711 = .ok (.iload 4, 2) := by decide +kernel
theorem dL_law_713 : decode cL_law 713 = .ok (.iconst 2, 1) := by decide +kernel
theorem dL_law_714 : decode cL_law 714 = .ok (.iadd, 1) := by decide +kernel
theorem dL_law_715 : decode cL_law 715 = .ok (.iaload, 1) := by decide +kernel
theorem dL_law_716 : decode cL_law 716 = .ok (.invokevirtual 136, 3) := by decide +kernel
theorem dL_law_719 : decode cL_law 719 = .ok (.istore 6, 2) := by decide +kernel
theorem dL_law_721 : decode cL_law 721 = .ok (.aload_n 2, 1) := by decide +kernel
theorem dL_law_722 : decode cL_law 722 = .ok (.invokevirtual 96, 3) := by decide +kernel
theorem dL_law_725 : decode cL_law 725 = .ok (.iload 5, 2) := by decide +kernel
theorem dL_law_727 : decode cL_law 727 = .ok (.if_icmp .eq 5, 3) := by decide +kernel
theorem dL_law_730 : decode cL_law 730 = .ok (.iconst 0, 1) := by decide +kernel
theorem dL_law_731 : decode cL_law 731 = .ok (.ireturn, 1) := by decide +kernel
theorem dL_law_732 : decode cL_law 732 = .ok (.iload 5, 2) := by decide +kernel
theorem dL_law_734 : decode cL_law 734 = .ok (.ifCond .ne 15, 3) := by decide +kernel
theorem dL_law_737 : decode cL_law 737 = .ok (.aload_n 3, 1) := by decide +kernel
theorem dL_law_738 : decode cL_law 738 = .ok (.iconst 0, 1) := by decide +kernel
theorem dL_law_739 : decode cL_law 739 = .ok (.laload, 1) := by decide +kernel
theorem dL_law_740 : decode cL_law 740 = .ok (.iload 6, 2) := by decide +kernel
theorem dL_law_742 : decode cL_law 742 = .ok (.i2l, 1) := by decide +kernel
theorem dL_law_743 : decode cL_law 743 = .ok (.lcmp, 1) := by decide +kernel
theorem dL_law_744 : decode cL_law 744 = .ok (.ifCond .eq 5, 3) := by decide +kernel
theorem dL_law_747 : decode cL_law 747 = .ok (.iconst 0, 1) := by decide +kernel
theorem dL_law_748 : decode cL_law 748 = .ok (.ireturn, 1) := by decide +kernel
theorem dL_law_749 : decode cL_law 749 = .ok (.goto 913, 3) := by decide +kernel
theorem dL_law_752 : decode cL_law 752 = .ok (.aload_n 1, 1) := by decide +kernel
theorem dL_law_753 : decode cL_law 753 = .ok (.aload_n 0, 1) := by decide +kernel
theorem dL_law_754 : decode cL_law 754 = .ok (.iload 4, 2) := by decide +kernel
theorem dL_law_756 : decode cL_law 756 = .ok (.iconst 1, 1) := by decide +kernel
theorem dL_law_757 : decode cL_law 757 = .ok (.iadd, 1) := by decide +kernel
theorem dL_law_758 : decode cL_law 758 = .ok (.iaload, 1) := by decide +kernel
theorem dL_law_759 : decode cL_law 759 = .ok (.aload_n 3, 1) := by decide +kernel
theorem dL_law_760 : decode cL_law 760 = .ok (.invokestatic 137, 3) := by decide +kernel
theorem dL_law_763 : decode cL_law 763 = .ok (.istore 5, 2) := by decide +kernel
theorem dL_law_765 : decode cL_law 765 = .ok (.aload_n 2, 1) := by decide +kernel
theorem dL_law_766 : decode cL_law 766 = .ok (.aload_n 0, 1) := by decide +kernel
theorem dL_law_767 : decode cL_law 767 = .ok (.iload 4, 2) := by decide +kernel
theorem dL_law_769 : decode cL_law 769 = .ok (.iconst 1, 1) := by decide +kernel
theorem dL_law_770 : decode cL_law 770 = .ok (.iadd, 1) := by decide +kernel
theorem dL_law_771 : decode cL_law 771 = .ok (.iaload, 1) := by decide +kernel
theorem dL_law_772 : decode cL_law 772 = .ok (.invokevirtual 139, 3) := by decide +kernel
theorem dL_law_775 : decode cL_law 775 = .ok (.lstore 6, 2) := by decide +kernel
theorem dL_law_777 : decode cL_law 777 = .ok (.aload_n 2, 1) := by decide +kernel
theorem dL_law_778 : decode cL_law 778 = .ok (.invokevirtual 96, 3) := by decide +kernel
theorem dL_law_781 : decode cL_law 781 = .ok (.iload 5, 2) := by decide +kernel
theorem dL_law_783 : decode cL_law 783 = .ok (.if_icmp .eq 5, 3) := by decide +kernel
theorem dL_law_786 : decode cL_law 786 = .ok (.iconst 0, 1) := by decide +kernel
theorem dL_law_787 : decode cL_law 787 = .ok (.ireturn, 1) := by decide +kernel
theorem dL_law_788 : decode cL_law 788 = .ok (.iload 5, 2) := by decide +kernel
theorem dL_law_790 : decode cL_law 790 = .ok (.ifCond .ne 14, 3) := by decide +kernel
theorem dL_law_793 : decode cL_law 793 = .ok (.aload_n 3, 1) := by decide +kernel
theorem dL_law_794 : decode cL_law 794 = .ok (.iconst 0, 1) := by decide +kernel
theorem dL_law_795 : decode cL_law 795 = .ok (.laload, 1) := by decide +kernel
theorem dL_law_796 : decode cL_law 796 = .ok (.lload 6, 2) := by decide +kernel
theorem dL_law_798 : decode cL_law 798 = .ok (.lcmp, 1) := by decide +kernel
theorem dL_law_799 : decode cL_law 799 = .ok (.ifCond .eq 5, 3) := by decide +kernel
theorem dL_law_802 : decode cL_law 802 = .ok (.iconst 0, 1) := by decide +kernel
theorem dL_law_803 : decode cL_law 803 = .ok (.ireturn, 1) := by decide +kernel
theorem dL_law_804 : decode cL_law 804 = .ok (.goto 858, 3) := by decide +kernel
theorem dL_law_807 : decode cL_law 807 = .ok (.aload_n 1, 1) := by decide +kernel
theorem dL_law_808 : decode cL_law 808 = .ok (.aload_n 0, 1) := by decide +kernel
theorem dL_law_809 : decode cL_law 809 = .ok (.iload 4, 2) := by decide +kernel
theorem dL_law_811 : decode cL_law 811 = .ok (.iconst 1, 1) := by decide +kernel
theorem dL_law_812 : decode cL_law 812 = .ok (.iadd, 1) := by decide +kernel
theorem dL_law_813 : decode cL_law 813 = .ok (.iaload, 1) := by decide +kernel
theorem dL_law_814 : decode cL_law 814 = .ok (.aload_n 3, 1) := by decide +kernel
theorem dL_law_815 : decode cL_law 815 = .ok (.invokestatic 140, 3) := by decide +kernel
theorem dL_law_818 : decode cL_law 818 = .ok (.istore 5, 2) := by decide +kernel
theorem dL_law_820 : decode cL_law 820 = .ok (.aload_n 2, 1) := by decide +kernel
theorem dL_law_821 : decode cL_law 821 = .ok (.aload_n 0, 1) := by decide +kernel
theorem dL_law_822 : decode cL_law 822 = .ok (.iload 4, 2) := by decide +kernel
theorem dL_law_824 : decode cL_law 824 = .ok (.iconst 1, 1) := by decide +kernel
theorem dL_law_825 : decode cL_law 825 = .ok (.iadd, 1) := by decide +kernel
theorem dL_law_826 : decode cL_law 826 = .ok (.iaload, 1) := by decide +kernel
theorem dL_law_827 : decode cL_law 827 = .ok (.invokevirtual 142, 3) := by decide +kernel
theorem dL_law_830 : decode cL_law 830 = .ok (.istore 6, 2) := by decide +kernel
theorem dL_law_832 : decode cL_law 832 = .ok (.aload_n 2, 1) := by decide +kernel
theorem dL_law_833 : decode cL_law 833 = .ok (.invokevirtual 96, 3) := by decide +kernel
theorem dL_law_836 : decode cL_law 836 = .ok (.iload 5, 2) := by decide +kernel
theorem dL_law_838 : decode cL_law 838 = .ok (.if_icmp .eq 5, 3) := by decide +kernel
theorem dL_law_841 : decode cL_law 841 = .ok (.iconst 0, 1) := by decide +kernel
theorem dL_law_842 : decode cL_law 842 = .ok (.ireturn, 1) := by decide +kernel
theorem dL_law_843 : decode cL_law 843 = .ok (.iload 5, 2) := by decide +kernel
theorem dL_law_845 : decode cL_law 845 = .ok (.ifCond .ne 15, 3) := by decide +kernel
theorem dL_law_848 : decode cL_law 848 = .ok (.aload_n 3, 1) := by decide +kernel
theorem dL_law_849 : decode cL_law 849 = .ok (.iconst 0, 1) := by decide +kernel
theorem dL_law_850 : decode cL_law 850 = .ok (.laload, 1) := by decide +kernel
theorem dL_law_851 : decode cL_law 851 = .ok (.iload 6, 2) := by decide +kernel
theorem dL_law_853 : decode cL_law 853 = .ok (.i2l, 1) := by decide +kernel
theorem dL_law_854 : decode cL_law 854 = .ok (.lcmp, 1) := by decide +kernel
theorem dL_law_855 : decode cL_law 855 = .ok (.ifCond .eq 5, 3) := by decide +kernel
theorem dL_law_858 : decode cL_law 858 = .ok (.iconst 0, 1) := by decide +kernel
theorem dL_law_859 : decode cL_law 859 = .ok (.ireturn, 1) := by decide +kernel
theorem dL_law_860 : decode cL_law 860 = .ok (.goto 802, 3) := by decide +kernel
theorem dL_law_863 : decode cL_law 863 = .ok (.aload_n 1, 1) := by decide +kernel
theorem dL_law_864 : decode cL_law 864 = .ok (.aload_n 0, 1) := by decide +kernel
theorem dL_law_865 : decode cL_law 865 = .ok (.iload 4, 2) := by decide +kernel
theorem dL_law_867 : decode cL_law 867 = .ok (.iconst 1, 1) := by decide +kernel
theorem dL_law_868 : decode cL_law 868 = .ok (.iadd, 1) := by decide +kernel
theorem dL_law_869 : decode cL_law 869 = .ok (.iaload, 1) := by decide +kernel
theorem dL_law_870 : decode cL_law 870 = .ok (.aload_n 0, 1) := by decide +kernel
theorem dL_law_871 : decode cL_law 871 = .ok (.iload 4, 2) := by decide +kernel
theorem dL_law_873 : decode cL_law 873 = .ok (.iconst 2, 1) := by decide +kernel
theorem dL_law_874 : decode cL_law 874 = .ok (.iadd, 1) := by decide +kernel
theorem dL_law_875 : decode cL_law 875 = .ok (.iaload, 1) := by decide +kernel
theorem dL_law_876 : decode cL_law 876 = .ok (.aload_n 3, 1) := by decide +kernel
theorem dL_law_877 : decode cL_law 877 = .ok (.invokestatic 143, 3) := by decide +kernel
theorem dL_law_880 : decode cL_law 880 = .ok (.istore 5, 2) := by decide +kernel
theorem dL_law_882 : decode cL_law 882 = .ok (.aload_n 2, 1) := by decide +kernel
theorem dL_law_883 : decode cL_law 883 = .ok (.aload_n 0, 1) := by decide +kernel
theorem dL_law_884 : decode cL_law 884 = .ok (.iload 4, 2) := by decide +kernel
theorem dL_law_886 : decode cL_law 886 = .ok (.iconst 1, 1) := by decide +kernel
theorem dL_law_887 : decode cL_law 887 = .ok (.iadd, 1) := by decide +kernel
theorem dL_law_888 : decode cL_law 888 = .ok (.iaload, 1) := by decide +kernel
theorem dL_law_889 : decode cL_law 889 = .ok (.aload_n 0, 1) := by decide +kernel
theorem dL_law_890 : decode cL_law 890 = .ok (.iload 4, 2) := by decide +kernel
theorem dL_law_892 : decode cL_law 892 = .ok (.iconst 2, 1) := by decide +kernel
theorem dL_law_893 : decode cL_law 893 = .ok (.iadd, 1) := by decide +kernel
theorem dL_law_894 : decode cL_law 894 = .ok (.iaload, 1) := by decide +kernel
theorem dL_law_895 : decode cL_law 895 = .ok (.invokevirtual 145, 3) := by decide +kernel
theorem dL_law_898 : decode cL_law 898 = .ok (.istore 6, 2) := by decide +kernel
theorem dL_law_900 : decode cL_law 900 = .ok (.aload_n 2, 1) := by decide +kernel
theorem dL_law_901 : decode cL_law 901 = .ok (.invokevirtual 96, 3) := by decide +kernel
theorem dL_law_904 : decode cL_law 904 = .ok (.iload 5, 2) := by decide +kernel
theorem dL_law_906 : decode cL_law 906 = .ok (.if_icmp .eq 5, 3) := by decide +kernel
theorem dL_law_909 : decode cL_law 909 = .ok (.iconst 0, 1) := by decide +kernel
theorem dL_law_910 : decode cL_law 910 = .ok (.ireturn, 1) := by decide +kernel
theorem dL_law_911 : decode cL_law 911 = .ok (.iload 5, 2) := by decide +kernel
theorem dL_law_913 : decode cL_law 913 = .ok (.ifCond .ne 15, 3) := by decide +kernel
theorem dL_law_916 : decode cL_law 916 = .ok (.aload_n 3, 1) := by decide +kernel
theorem dL_law_917 : decode cL_law 917 = .ok (.iconst 0, 1) := by decide +kernel
theorem dL_law_918 : decode cL_law 918 = .ok (.laload, 1) := by decide +kernel
theorem dL_law_919 : decode cL_law 919 = .ok (.iload 6, 2) := by decide +kernel
theorem dL_law_921 : decode cL_law 921 = .ok (.i2l, 1) := by decide +kernel
theorem dL_law_922 : decode cL_law 922 = .ok (.lcmp, 1) := by decide +kernel
theorem dL_law_923 : decode cL_law 923 = .ok (.ifCond .eq 5, 3) := by decide +kernel
theorem dL_law_926 : decode cL_law 926 = .ok (.iconst 0, 1) := by decide +kernel
theorem dL_law_927 : decode cL_law 927 = .ok (.ireturn, 1) := by decide +kernel
theorem dL_law_928 : decode cL_law 928 = .ok (.goto 734, 3) := by decide +kernel
theorem dL_law_931 : decode cL_law 931 = .ok (.aload_n 1, 1) := by decide +kernel
theorem dL_law_932 : decode cL_law 932 = .ok (.aload_n 0, 1) := by decide +kernel
theorem dL_law_933 : decode cL_law 933 = .ok (.iload 4, 2) := by decide +kernel
theorem dL_law_935 : decode cL_law 935 = .ok (.iconst 1, 1) := by decide +kernel
theorem dL_law_936 : decode cL_law 936 = .ok (.iadd, 1) := by decide +kernel
theorem dL_law_937 : decode cL_law 937 = .ok (.iaload, 1) := by decide +kernel
theorem dL_law_938 : decode cL_law 938 = .ok (.aload_n 3, 1) := by decide +kernel
theorem dL_law_939 : decode cL_law 939 = .ok (.invokestatic 146, 3) := by decide +kernel
theorem dL_law_942 : decode cL_law 942 = .ok (.istore 5, 2) := by decide +kernel
theorem dL_law_944 : decode cL_law 944 = .ok (.aload_n 2, 1) := by decide +kernel
theorem dL_law_945 : decode cL_law 945 = .ok (.aload_n 0, 1) := by decide +kernel
theorem dL_law_946 : decode cL_law 946 = .ok (.iload 4, 2) := by decide +kernel
theorem dL_law_948 : decode cL_law 948 = .ok (.iconst 1, 1) := by decide +kernel
theorem dL_law_949 : decode cL_law 949 = .ok (.iadd, 1) := by decide +kernel
theorem dL_law_950 : decode cL_law 950 = .ok (.iaload, 1) := by decide +kernel
theorem dL_law_951 : decode cL_law 951 = .ok (.invokevirtual 148, 3) := by decide +kernel
theorem dL_law_954 : decode cL_law 954 = .ok (.lstore 6, 2) := by decide +kernel
theorem dL_law_956 : decode cL_law 956 = .ok (.aload_n 2, 1) := by decide +kernel
theorem dL_law_957 : decode cL_law 957 = .ok (.invokevirtual 96, 3) := by decide +kernel
theorem dL_law_960 : decode cL_law 960 = .ok (.iload 5, 2) := by decide +kernel
theorem dL_law_962 : decode cL_law 962 = .ok (.if_icmp .eq 5, 3) := by decide +kernel
theorem dL_law_965 : decode cL_law 965 = .ok (.iconst 0, 1) := by decide +kernel
theorem dL_law_966 : decode cL_law 966 = .ok (.ireturn, 1) := by decide +kernel
theorem dL_law_967 : decode cL_law 967 = .ok (.iload 5, 2) := by decide +kernel
theorem dL_law_969 : decode cL_law 969 = .ok (.ifCond .ne 14, 3) := by decide +kernel
theorem dL_law_972 : decode cL_law 972 = .ok (.aload_n 3, 1) := by decide +kernel
theorem dL_law_973 : decode cL_law 973 = .ok (.iconst 0, 1) := by decide +kernel
theorem dL_law_974 : decode cL_law 974 = .ok (.laload, 1) := by decide +kernel
theorem dL_law_975 : decode cL_law 975 = .ok (.lload 6, 2) := by decide +kernel
theorem dL_law_977 : decode cL_law 977 = .ok (.lcmp, 1) := by decide +kernel
theorem dL_law_978 : decode cL_law 978 = .ok (.ifCond .eq 5, 3) := by decide +kernel
theorem dL_law_981 : decode cL_law 981 = .ok (.iconst 0, 1) := by decide +kernel
theorem dL_law_982 : decode cL_law 982 = .ok (.ireturn, 1) := by decide +kernel
theorem dL_law_983 : decode cL_law 983 = .ok (.goto 679, 3) := by decide +kernel
theorem dL_law_986 : decode cL_law 986 = .ok (.aload_n 1, 1) := by decide +kernel
theorem dL_law_987 : decode cL_law 987 = .ok (.aload_n 3, 1) := by decide +kernel
theorem dL_law_988 : decode cL_law 988 = .ok (.invokestatic 149, 3) := by decide +kernel
theorem dL_law_991 : decode cL_law 991 = .ok (.istore 5, 2) := by decide +kernel
theorem dL_law_993 : decode cL_law 993 = .ok (.aload_n 2, 1) := by decide +kernel
theorem dL_law_994 : decode cL_law 994 = .ok (.invokevirtual 152, 3) := by decide +kernel
theorem dL_law_997 : decode cL_law 997 = .ok (.istore 6, 2) := by decide +kernel
theorem dL_law_999 : decode cL_law 999 = .ok (.aload_n 2, 1) := by decide +kernel
theorem dL_law_1000 : decode cL_law 1000 = .ok (.invokevirtual 96, 3) := by decide +kernel
theorem dL_law_1003 : decode cL_law 1003 = .ok (.iload 5, 2) := by decide +kernel
theorem dL_law_1005 : decode cL_law 1005 = .ok (.if_icmp .eq 5, 3) := by decide +kernel
theorem dL_law_1008 : decode cL_law 1008 = .ok (.iconst 0, 1) := by decide +kernel
theorem dL_law_1009 : decode cL_law 1009 = .ok (.ireturn, 1) := by decide +kernel
theorem dL_law_1010 : decode cL_law 1010 = .ok (.iload 5, 2) := by decide +kernel
theorem dL_law_1012 : decode cL_law 1012 = .ok (.ifCond .ne 15, 3) := by decide +kernel
theorem dL_law_1015 : decode cL_law 1015 = .ok (.aload_n 3, 1) := by decide +kernel
theorem dL_law_1016 : decode cL_law 1016 = .ok (.iconst 0, 1) := by decide +kernel
theorem dL_law_1017 : decode cL_law 1017 = .ok (.laload, 1) := by decide +kernel
theorem dL_law_1018 : decode cL_law 1018 = .ok (.iload 6, 2) := by decide +kernel
theorem dL_law_1020 : decode cL_law 1020 = .ok (.i2l, 1) := by decide +kernel
theorem dL_law_1021 : decode cL_law 1021 = .ok (.lcmp, 1) := by decide +kernel
theorem dL_law_1022 : decode cL_law 1022 = .ok (.ifCond .eq 5, 3) := by decide +kernel
theorem dL_law_1025 : decode cL_law 1025 = .ok (.iconst 0, 1) := by decide +kernel
theorem dL_law_1026 : decode cL_law 1026 = .ok (.ireturn, 1) := by decide +kernel
theorem dL_law_1027 : decode cL_law 1027 = .ok (.goto 635, 3) := by decide +kernel
theorem dL_law_1030 : decode cL_law 1030 = .ok (.aload_n 1, 1) := by decide +kernel
theorem dL_law_1031 : decode cL_law 1031 = .ok (.aload_n 0, 1) := by decide +kernel
theorem dL_law_1032 : decode cL_law 1032 = .ok (.iload 4, 2) := by decide +kernel
theorem dL_law_1034 : decode cL_law 1034 = .ok (.iconst 1, 1) := by decide +kernel
theorem dL_law_1035 : decode cL_law 1035 = .ok (.iadd, 1) := by decide +kernel
theorem dL_law_1036 : decode cL_law 1036 = .ok (.iaload, 1) := by decide +kernel
theorem dL_law_1037 : decode cL_law 1037 = .ok (.aload_n 0, 1) := by decide +kernel
theorem dL_law_1038 : decode cL_law 1038 = .ok (.iload 4, 2) := by decide +kernel
theorem dL_law_1040 : decode cL_law 1040 = .ok (.iconst 2, 1) := by decide +kernel
theorem dL_law_1041 : decode cL_law 1041 = .ok (.iadd, 1) := by decide +kernel
theorem dL_law_1042 : decode cL_law 1042 = .ok (.iaload, 1) := by decide +kernel
theorem dL_law_1043 : decode cL_law 1043 = .ok (.aload_n 3, 1) := by decide +kernel
theorem dL_law_1044 : decode cL_law 1044 = .ok (.invokestatic 153, 3) := by decide +kernel
theorem dL_law_1047 : decode cL_law 1047 = .ok (.istore 5, 2) := by decide +kernel
theorem dL_law_1049 : decode cL_law 1049 = .ok (.aload_n 2, 1) := by decide +kernel
theorem dL_law_1050 : decode cL_law 1050 = .ok (.aload_n 0, 1) := by decide +kernel
theorem dL_law_1051 : decode cL_law 1051 = .ok (.iload 4, 2) := by decide +kernel
theorem dL_law_1053 : decode cL_law 1053 = .ok (.iconst 1, 1) := by decide +kernel
theorem dL_law_1054 : decode cL_law 1054 = .ok (.iadd, 1) := by decide +kernel
theorem dL_law_1055 : decode cL_law 1055 = .ok (.iaload, 1) := by decide +kernel
theorem dL_law_1056 : decode cL_law 1056 = .ok (.aload_n 0, 1) := by decide +kernel
theorem dL_law_1057 : decode cL_law 1057 = .ok (.iload 4, 2) := by decide +kernel
theorem dL_law_1059 : decode cL_law 1059 = .ok (.iconst 2, 1) := by decide +kernel
theorem dL_law_1060 : decode cL_law 1060 = .ok (.iadd, 1) := by decide +kernel
theorem dL_law_1061 : decode cL_law 1061 = .ok (.iaload, 1) := by decide +kernel
theorem dL_law_1062 : decode cL_law 1062 = .ok (.invokevirtual 155, 3) := by decide +kernel
theorem dL_law_1065 : decode cL_law 1065 = .ok (.istore 6, 2) := by decide +kernel
theorem dL_law_1067 : decode cL_law 1067 = .ok (.aload_n 2, 1) := by decide +kernel
theorem dL_law_1068 : decode cL_law 1068 = .ok (.invokevirtual 96, 3) := by decide +kernel
theorem dL_law_1071 : decode cL_law 1071 = .ok (.iload 5, 2) := by decide +kernel
theorem dL_law_1073 : decode cL_law 1073 = .ok (.if_icmp .eq 5, 3) := by decide +kernel
theorem dL_law_1076 : decode cL_law 1076 = .ok (.iconst 0, 1) := by decide +kernel
theorem dL_law_1077 : decode cL_law 1077 = .ok (.ireturn, 1) := by decide +kernel
theorem dL_law_1078 : decode cL_law 1078 = .ok (.iload 5, 2) := by decide +kernel
theorem dL_law_1080 : decode cL_law 1080 = .ok (.ifCond .ne 15, 3) := by decide +kernel
theorem dL_law_1083 : decode cL_law 1083 = .ok (.aload_n 3, 1) := by decide +kernel
theorem dL_law_1084 : decode cL_law 1084 = .ok (.iconst 0, 1) := by decide +kernel
theorem dL_law_1085 : decode cL_law 1085 = .ok (.laload, 1) := by decide +kernel
theorem dL_law_1086 : decode cL_law 1086 = .ok (.iload 6, 2) := by decide +kernel
theorem dL_law_1088 : decode cL_law 1088 = .ok (.i2l, 1) := by decide +kernel
theorem dL_law_1089 : decode cL_law 1089 = .ok (.lcmp, 1) := by decide +kernel
theorem dL_law_1090 : decode cL_law 1090 = .ok (.ifCond .eq 5, 3) := by decide +kernel
theorem dL_law_1093 : decode cL_law 1093 = .ok (.iconst 0, 1) := by decide +kernel
theorem dL_law_1094 : decode cL_law 1094 = .ok (.ireturn, 1) := by decide +kernel
theorem dL_law_1095 : decode cL_law 1095 = .ok (.goto 567, 3) := by decide +kernel
theorem dL_law_1098 : decode cL_law 1098 = .ok (.aload_n 1, 1) := by decide +kernel
theorem dL_law_1099 : decode cL_law 1099 = .ok (.aload_n 0, 1) := by decide +kernel
theorem dL_law_1100 : decode cL_law 1100 = .ok (.iload 4, 2) := by decide +kernel
theorem dL_law_1102 : decode cL_law 1102 = .ok (.iconst 1, 1) := by decide +kernel
theorem dL_law_1103 : decode cL_law 1103 = .ok (.iadd, 1) := by decide +kernel
theorem dL_law_1104 : decode cL_law 1104 = .ok (.iaload, 1) := by decide +kernel
theorem dL_law_1105 : decode cL_law 1105 = .ok (.aload_n 3, 1) := by decide +kernel
theorem dL_law_1106 : decode cL_law 1106 = .ok (.invokestatic 156, 3) := by decide +kernel
theorem dL_law_1109 : decode cL_law 1109 = .ok (.istore 5, 2) := by decide +kernel
theorem dL_law_1111 : decode cL_law 1111 = .ok (.aload_n 2, 1) := by decide +kernel
theorem dL_law_1112 : decode cL_law 1112 = .ok (.aload_n 0, 1) := by decide +kernel
theorem dL_law_1113 : decode cL_law 1113 = .ok (.iload 4, 2) := by decide +kernel
theorem dL_law_1115 : decode cL_law 1115 = .ok (.iconst 1, 1) := by decide +kernel
theorem dL_law_1116 : decode cL_law 1116 = .ok (.iadd, 1) := by decide +kernel
theorem dL_law_1117 : decode cL_law 1117 = .ok (.iaload, 1) := by decide +kernel
theorem dL_law_1118 : decode cL_law 1118 = .ok (.invokevirtual 158, 3) := by decide +kernel
theorem dL_law_1121 : decode cL_law 1121 = .ok (.istore 6, 2) := by decide +kernel
theorem dL_law_1123 : decode cL_law 1123 = .ok (.aload_n 2, 1) := by decide +kernel
theorem dL_law_1124 : decode cL_law 1124 = .ok (.invokevirtual 96, 3) := by decide +kernel
theorem dL_law_1127 : decode cL_law 1127 = .ok (.iload 5, 2) := by decide +kernel
theorem dL_law_1129 : decode cL_law 1129 = .ok (.if_icmp .eq 5, 3) := by decide +kernel
theorem dL_law_1132 : decode cL_law 1132 = .ok (.iconst 0, 1) := by decide +kernel
theorem dL_law_1133 : decode cL_law 1133 = .ok (.ireturn, 1) := by decide +kernel
theorem dL_law_1134 : decode cL_law 1134 = .ok (.iload 5, 2) := by decide +kernel
theorem dL_law_1136 : decode cL_law 1136 = .ok (.ifCond .ne 22, 3) := by decide +kernel
theorem dL_law_1139 : decode cL_law 1139 = .ok (.aload_n 3, 1) := by decide +kernel
theorem dL_law_1140 : decode cL_law 1140 = .ok (.iconst 0, 1) := by decide +kernel
theorem dL_law_1141 : decode cL_law 1141 = .ok (.laload, 1) := by decide +kernel
theorem dL_law_1142 : decode cL_law 1142 = .ok (.iload 6, 2) := by decide +kernel
theorem dL_law_1144 : decode cL_law 1144 = .ok (.ifCond .eq 7, 3) := by decide +kernel
theorem dL_law_1147 : decode cL_law 1147 = .ok (.lconst 1, 1) := by decide +kernel
theorem dL_law_1148 : decode cL_law 1148 = .ok (.goto 4, 3) := by decide +kernel
theorem dL_law_1151 : decode cL_law 1151 = .ok (.lconst 0, 1) := by decide +kernel
theorem dL_law_1152 : decode cL_law 1152 = .ok (.lcmp, 1) := by decide +kernel
theorem dL_law_1153 : decode cL_law 1153 = .ok (.ifCond .eq 5, 3) := by decide +kernel
theorem dL_law_1156 : decode cL_law 1156 = .ok (.iconst 0, 1) := by decide +kernel
theorem dL_law_1157 : decode cL_law 1157 = .ok (.ireturn, 1) := by decide +kernel
theorem dL_law_1158 : decode cL_law 1158 = .ok (.goto 504, 3) := by decide +kernel
theorem dL_law_1161 : decode cL_law 1161 = .ok (.aload_n 1, 1) := by decide +kernel
theorem dL_law_1162 : decode cL_law 1162 = .ok (.aload_n 3, 1) := by decide +kernel
theorem dL_law_1163 : decode cL_law 1163 = .ok (.invokestatic 159, 3) := by decide +kernel
theorem dL_law_1166 : decode cL_law 1166 = .ok (.istore 5, 2) := by decide +kernel
theorem dL_law_1168 : decode cL_law 1168 = .ok (.aload_n 2, 1) := by decide +kernel
theorem dL_law_1169 : decode cL_law 1169 = .ok (.invokevirtual 161, 3) := by decide +kernel
theorem dL_law_1172 : decode cL_law 1172 = .ok (.istore 6, 2) := by decide +kernel
theorem dL_law_1174 : decode cL_law 1174 = .ok (.aload_n 2, 1) := by decide +kernel
theorem dL_law_1175 : decode cL_law 1175 = .ok (.invokevirtual 96, 3) := by decide +kernel
theorem dL_law_1178 : decode cL_law 1178 = .ok (.iload 5, 2) := by decide +kernel
theorem dL_law_1180 : decode cL_law 1180 = .ok (.if_icmp .eq 5, 3) := by decide +kernel
theorem dL_law_1183 : decode cL_law 1183 = .ok (.iconst 0, 1) := by decide +kernel
theorem dL_law_1184 : decode cL_law 1184 = .ok (.ireturn, 1) := by decide +kernel
theorem dL_law_1185 : decode cL_law 1185 = .ok (.iload 5, 2) := by decide +kernel
theorem dL_law_1187 : decode cL_law 1187 = .ok (.ifCond .ne 15, 3) := by decide +kernel
theorem dL_law_1190 : decode cL_law 1190 = .ok (.aload_n 3, 1) := by decide +kernel
theorem dL_law_1191 : decode cL_law 1191 = .ok (.iconst 0, 1) := by decide +kernel
theorem dL_law_1192 : decode cL_law 1192 = .ok (.laload, 1) := by decide +kernel
theorem dL_law_1193 : decode cL_law 1193 = .ok (.iload 6, 2) := by decide +kernel
theorem dL_law_1195 : decode cL_law 1195 = .ok (.i2l, 1) := by decide +kernel
theorem dL_law_1196 : decode cL_law 1196 = .ok (.lcmp, 1) := by decide +kernel
theorem dL_law_1197 : decode cL_law 1197 = .ok (.ifCond .eq 5, 3) := by decide +kernel
theorem dL_law_1200 : decode cL_law 1200 = .ok (.iconst 0, 1) := by decide +kernel
theorem dL_law_1201 : decode cL_law 1201 = .ok (.ireturn, 1) := by decide +kernel
theorem dL_law_1202 : decode cL_law 1202 = .ok (.goto 460, 3) := by decide +kernel
theorem dL_law_1205 : decode cL_law 1205 = .ok (.aload_n 1, 1) := by decide +kernel
theorem dL_law_1206 : decode cL_law 1206 = .ok (.aload_n 0, 1) := by decide +kernel
theorem dL_law_1207 : decode cL_law 1207 = .ok (.iload 4, 2) := by decide +kernel
theorem dL_law_1209 : decode cL_law 1209 = .ok (.iconst 1, 1) := by decide +kernel
theorem dL_law_1210 : decode cL_law 1210 = .ok (.iadd, 1) := by decide +kernel
theorem dL_law_1211 : decode cL_law 1211 = .ok (.iaload, 1) := by decide +kernel
theorem dL_law_1212 : decode cL_law 1212 = .ok (.aload_n 0, 1) := by decide +kernel
theorem dL_law_1213 : decode cL_law 1213 = .ok (.iload 4, 2) := by decide +kernel
theorem dL_law_1215 : decode cL_law 1215 = .ok (.iconst 2, 1) := by decide +kernel
theorem dL_law_1216 : decode cL_law 1216 = .ok (.iadd, 1) := by decide +kernel
theorem dL_law_1217 : decode cL_law 1217 = .ok (.iaload, 1) := by decide +kernel
theorem dL_law_1218 : decode cL_law 1218 = .ok (.aload_n 0, 1) := by decide +kernel
theorem dL_law_1219 : decode cL_law 1219 = .ok (.iload 4, 2) := by decide +kernel
theorem dL_law_1221 : decode cL_law 1221 = .ok (.iconst 3, 1) := by decide +kernel
theorem dL_law_1222 : decode cL_law 1222 = .ok (.iadd, 1) := by decide +kernel
theorem dL_law_1223 : decode cL_law 1223 = .ok (.iaload, 1) := by decide +kernel
theorem dL_law_1224 : decode cL_law 1224 = .ok (.aload_n 3, 1) := by decide +kernel
theorem dL_law_1225 : decode cL_law 1225 = .ok (.invokestatic 162, 3) := by decide +kernel
theorem dL_law_1228 : decode cL_law 1228 = .ok (.istore 5, 2) := by decide +kernel
theorem dL_law_1230 : decode cL_law 1230 = .ok (.aload_n 2, 1) := by decide +kernel
theorem dL_law_1231 : decode cL_law 1231 = .ok (.aload_n 0, 1) := by decide +kernel
theorem dL_law_1232 : decode cL_law 1232 = .ok (.iload 4, 2) := by decide +kernel
theorem dL_law_1234 : decode cL_law 1234 = .ok (.iconst 1, 1) := by decide +kernel
theorem dL_law_1235 : decode cL_law 1235 = .ok (.iadd, 1) := by decide +kernel
theorem dL_law_1236 : decode cL_law 1236 = .ok (.iaload, 1) := by decide +kernel
theorem dL_law_1237 : decode cL_law 1237 = .ok (.aload_n 0, 1) := by decide +kernel
theorem dL_law_1238 : decode cL_law 1238 = .ok (.iload 4, 2) := by decide +kernel
theorem dL_law_1240 : decode cL_law 1240 = .ok (.iconst 2, 1) := by decide +kernel
theorem dL_law_1241 : decode cL_law 1241 = .ok (.iadd, 1) := by decide +kernel
theorem dL_law_1242 : decode cL_law 1242 = .ok (.iaload, 1) := by decide +kernel
theorem dL_law_1243 : decode cL_law 1243 = .ok (.aload_n 0, 1) := by decide +kernel
theorem dL_law_1244 : decode cL_law 1244 = .ok (.iload 4, 2) := by decide +kernel
theorem dL_law_1246 : decode cL_law 1246 = .ok (.iconst 3, 1) := by decide +kernel
theorem dL_law_1247 : decode cL_law 1247 = .ok (.iadd, 1) := by decide +kernel
theorem dL_law_1248 : decode cL_law 1248 = .ok (.iaload, 1) := by decide +kernel
theorem dL_law_1249 : decode cL_law 1249 = .ok (.invokevirtual 164, 3) := by decide +kernel
theorem dL_law_1252 : decode cL_law 1252 = .ok (.istore 6, 2) := by decide +kernel
theorem dL_law_1254 : decode cL_law 1254 = .ok (.aload_n 2, 1) := by decide +kernel
theorem dL_law_1255 : decode cL_law 1255 = .ok (.invokevirtual 96, 3) := by decide +kernel
theorem dL_law_1258 : decode cL_law 1258 = .ok (.iload 5, 2) := by decide +kernel
theorem dL_law_1260 : decode cL_law 1260 = .ok (.if_icmp .eq 5, 3) := by decide +kernel
theorem dL_law_1263 : decode cL_law 1263 = .ok (.iconst 0, 1) := by decide +kernel
theorem dL_law_1264 : decode cL_law 1264 = .ok (.ireturn, 1) := by decide +kernel
theorem dL_law_1265 : decode cL_law 1265 = .ok (.iload 5, 2) := by decide +kernel
theorem dL_law_1267 : decode cL_law 1267 = .ok (.ifCond .ne 22, 3) := by decide +kernel
theorem dL_law_1270 : decode cL_law 1270 = .ok (.aload_n 3, 1) := by decide +kernel
theorem dL_law_1271 : decode cL_law 1271 = .ok (.iconst 0, 1) := by decide +kernel
theorem dL_law_1272 : decode cL_law 1272 = .ok (.laload, 1) := by decide +kernel
theorem dL_law_1273 : decode cL_law 1273 = .ok (.iload 6, 2) := by decide +kernel
theorem dL_law_1275 : decode cL_law 1275 = .ok (.ifCond .eq 7, 3) := by decide +kernel
theorem dL_law_1278 : decode cL_law 1278 = .ok (.lconst 1, 1) := by decide +kernel
theorem dL_law_1279 : decode cL_law 1279 = .ok (.goto 4, 3) := by decide +kernel
theorem dL_law_1282 : decode cL_law 1282 = .ok (.lconst 0, 1) := by decide +kernel
theorem dL_law_1283 : decode cL_law 1283 = .ok (.lcmp, 1) := by decide +kernel
theorem dL_law_1284 : decode cL_law 1284 = .ok (.ifCond .eq 5, 3) := by decide +kernel
theorem dL_law_1287 : decode cL_law 1287 = .ok (.iconst 0, 1) := by decide +kernel
theorem dL_law_1288 : decode cL_law 1288 = .ok (.ireturn, 1) := by decide +kernel
theorem dL_law_1289 : decode cL_law 1289 = .ok (.goto 373, 3) := by decide +kernel
theorem dL_law_1292 : decode cL_law 1292 = .ok (.aload_n 1, 1) := by decide +kernel
theorem dL_law_1293 : decode cL_law 1293 = .ok (.aload_n 0, 1) := by decide +kernel
theorem dL_law_1294 : decode cL_law 1294 = .ok (.iload 4, 2) := by decide +kernel
theorem dL_law_1296 : decode cL_law 1296 = .ok (.iconst 1, 1) := by decide +kernel
theorem dL_law_1297 : decode cL_law 1297 = .ok (.iadd, 1) := by decide +kernel
theorem dL_law_1298 : decode cL_law 1298 = .ok (.iaload, 1) := by decide +kernel
theorem dL_law_1299 : decode cL_law 1299 = .ok (.aload_n 0, 1) := by decide +kernel
theorem dL_law_1300 : decode cL_law 1300 = .ok (.iload 4, 2) := by decide +kernel
theorem dL_law_1302 : decode cL_law 1302 = .ok (.iconst 2, 1) := by decide +kernel
theorem dL_law_1303 : decode cL_law 1303 = .ok (.iadd, 1) := by decide +kernel
theorem dL_law_1304 : decode cL_law 1304 = .ok (.iaload, 1) := by decide +kernel
theorem dL_law_1305 : decode cL_law 1305 = .ok (.aload_n 3, 1) := by decide +kernel
theorem dL_law_1306 : decode cL_law 1306 = .ok (.invokestatic 165, 3) := by decide +kernel
theorem dL_law_1309 : decode cL_law 1309 = .ok (.istore 5, 2) := by decide +kernel
theorem dL_law_1311 : decode cL_law 1311 = .ok (.aload_n 2, 1) := by decide +kernel
theorem dL_law_1312 : decode cL_law 1312 = .ok (.aload_n 0, 1) := by decide +kernel
theorem dL_law_1313 : decode cL_law 1313 = .ok (.iload 4, 2) := by decide +kernel
theorem dL_law_1315 : decode cL_law 1315 = .ok (.iconst 1, 1) := by decide +kernel
theorem dL_law_1316 : decode cL_law 1316 = .ok (.iadd, 1) := by decide +kernel
theorem dL_law_1317 : decode cL_law 1317 = .ok (.iaload, 1) := by decide +kernel
theorem dL_law_1318 : decode cL_law 1318 = .ok (.aload_n 0, 1) := by decide +kernel
theorem dL_law_1319 : decode cL_law 1319 = .ok (.iload 4, 2) := by decide +kernel
theorem dL_law_1321 : decode cL_law 1321 = .ok (.iconst 2, 1) := by decide +kernel
theorem dL_law_1322 : decode cL_law 1322 = .ok (.iadd, 1) := by decide +kernel
theorem dL_law_1323 : decode cL_law 1323 = .ok (.iaload, 1) := by decide +kernel
theorem dL_law_1324 : decode cL_law 1324 = .ok (.invokevirtual 167, 3) := by decide +kernel
theorem dL_law_1327 : decode cL_law 1327 = .ok (.istore 6, 2) := by decide +kernel
theorem dL_law_1329 : decode cL_law 1329 = .ok (.aload_n 2, 1) := by decide +kernel
theorem dL_law_1330 : decode cL_law 1330 = .ok (.invokevirtual 96, 3) := by decide +kernel
theorem dL_law_1333 : decode cL_law 1333 = .ok (.iload 5, 2) := by decide +kernel
theorem dL_law_1335 : decode cL_law 1335 = .ok (.if_icmp .eq 5, 3) := by decide +kernel
theorem dL_law_1338 : decode cL_law 1338 = .ok (.iconst 0, 1) := by decide +kernel
theorem dL_law_1339 : decode cL_law 1339 = .ok (.ireturn, 1) := by decide +kernel
theorem dL_law_1340 : decode cL_law 1340 = .ok (.iload 5, 2) := by decide +kernel
theorem dL_law_1342 : decode cL_law 1342 = .ok (.ifCond .ne 15, 3) := by decide +kernel
theorem dL_law_1345 : decode cL_law 1345 = .ok (.aload_n 3, 1) := by decide +kernel
theorem dL_law_1346 : decode cL_law 1346 = .ok (.iconst 0, 1) := by decide +kernel
theorem dL_law_1347 : decode cL_law 1347 = .ok (.laload, 1) := by decide +kernel
theorem dL_law_1348 : decode cL_law 1348 = .ok (.iload 6, 2) := by decide +kernel
theorem dL_law_1350 : decode cL_law 1350 = .ok (.i2l, 1) := by decide +kernel
theorem dL_law_1351 : decode cL_law 1351 = .ok (.lcmp, 1) := by decide +kernel
theorem dL_law_1352 : decode cL_law 1352 = .ok (.ifCond .eq 5, 3) := by decide +kernel
theorem dL_law_1355 : decode cL_law 1355 = .ok (.iconst 0, 1) := by decide +kernel
theorem dL_law_1356 : decode cL_law 1356 = .ok (.ireturn, 1) := by decide +kernel
theorem dL_law_1357 : decode cL_law 1357 = .ok (.goto 305, 3) := by decide +kernel
theorem dL_law_1360 : decode cL_law 1360 = .ok (.aload_n 1, 1) := by decide +kernel
theorem dL_law_1361 : decode cL_law 1361 = .ok (.invokevirtual 168, 3) := by decide +kernel
theorem dL_law_1364 : decode cL_law 1364 = .ok (.aload_n 2, 1) := by decide +kernel
theorem dL_law_1365 : decode cL_law 1365 = .ok (.invokevirtual 171, 3) := by decide +kernel
theorem dL_law_1368 : decode cL_law 1368 = .ok (.if_icmp .eq 294, 3) := by decide +kernel
theorem dL_law_1371 : decode cL_law 1371 = .ok (.iconst 0, 1) := by decide +kernel
theorem dL_law_1372 : decode cL_law 1372 = .ok (.ireturn, 1) := by decide +kernel
theorem dL_law_1373 : decode cL_law 1373 = .ok (.aload_n 1, 1) := by decide +kernel
theorem dL_law_1374 : decode cL_law 1374 = .ok (.invokevirtual 172, 3) := by decide +kernel
theorem dL_law_1377 : decode cL_law 1377 = .ok (.aload_n 2, 1) := by decide +kernel
theorem dL_law_1378 : decode cL_law 1378 = .ok (.invokevirtual 175, 3) := by decide +kernel
theorem dL_law_1381 : decode cL_law 1381 = .ok (.if_icmp .eq 281, 3) := by decide +kernel
theorem dL_law_1384 : decode cL_law 1384 = .ok (.iconst 0, 1) := by decide +kernel
theorem dL_law_1385 : decode cL_law 1385 = .ok (.ireturn, 1) := by decide +kernel
theorem dL_law_1386 : decode cL_law 1386 = .ok (.aload_n 1, 1) := by decide +kernel
theorem dL_law_1387 : decode cL_law 1387 = .ok (.aload_n 0, 1) := by decide +kernel
theorem dL_law_1388 : decode cL_law 1388 = .ok (.iload 4, 2) := by decide +kernel
theorem dL_law_1390 : decode cL_law 1390 = .ok (.iconst 1, 1) := by decide +kernel
theorem dL_law_1391 : decode cL_law 1391 = .ok (.iadd, 1) := by decide +kernel
theorem dL_law_1392 : decode cL_law 1392 = .ok (.iaload, 1) := by decide +kernel
theorem dL_law_1393 : decode cL_law 1393 = .ok (.aload_n 0, 1) := by decide +kernel
theorem dL_law_1394 : decode cL_law 1394 = .ok (.iload 4, 2) := by decide +kernel
theorem dL_law_1396 : decode cL_law 1396 = .ok (.iconst 2, 1) := by decide +kernel
theorem dL_law_1397 : decode cL_law 1397 = .ok (.iadd, 1) := by decide +kernel
theorem dL_law_1398 : decode cL_law 1398 = .ok (.iaload, 1) := by decide +kernel
theorem dL_law_1399 : decode cL_law 1399 = .ok (.aload_n 0, 1) := by decide +kernel
theorem dL_law_1400 : decode cL_law 1400 = .ok (.iload 4, 2) := by decide +kernel
theorem dL_law_1402 : decode cL_law 1402 = .ok (.iconst 3, 1) := by decide +kernel
theorem dL_law_1403 : decode cL_law 1403 = .ok (.iadd, 1) := by decide +kernel
theorem dL_law_1404 : decode cL_law 1404 = .ok (.iaload, 1) := by decide +kernel
theorem dL_law_1405 : decode cL_law 1405 = .ok (.aload_n 3, 1) := by decide +kernel
theorem dL_law_1406 : decode cL_law 1406 = .ok (.invokestatic 176, 3) := by decide +kernel
theorem dL_law_1409 : decode cL_law 1409 = .ok (.istore 5, 2) := by decide +kernel
theorem dL_law_1411 : decode cL_law 1411 = .ok (.aload_n 2, 1) := by decide +kernel
theorem dL_law_1412 : decode cL_law 1412 = .ok (.aload_n 0, 1) := by decide +kernel
theorem dL_law_1413 : decode cL_law 1413 = .ok (.iload 4, 2) := by decide +kernel
theorem dL_law_1415 : decode cL_law 1415 = .ok (.iconst 1, 1) := by decide +kernel
theorem dL_law_1416 : decode cL_law 1416 = .ok (.iadd, 1) := by decide +kernel
theorem dL_law_1417 : decode cL_law 1417 = .ok (.iaload, 1) := by decide +kernel
theorem dL_law_1418 : decode cL_law 1418 = .ok (.aload_n 0, 1) := by decide +kernel
theorem dL_law_1419 : decode cL_law 1419 = .ok (.iload 4, 2) := by decide +kernel
theorem dL_law_1421 : decode cL_law 1421 = .ok (.iconst 2, 1) := by decide +kernel
theorem dL_law_1422 : decode cL_law 1422 = .ok (.iadd, 1) := by decide +kernel
theorem dL_law_1423 : decode cL_law 1423 = .ok (.iaload, 1) := by decide +kernel
theorem dL_law_1424 : decode cL_law 1424 = .ok (.aload_n 0, 1) := by decide +kernel
theorem dL_law_1425 : decode cL_law 1425 = .ok (.iload 4, 2) := by decide +kernel
theorem dL_law_1427 : decode cL_law 1427 = .ok (.iconst 3, 1) := by decide +kernel
theorem dL_law_1428 : decode cL_law 1428 = .ok (.iadd, 1) := by decide +kernel
theorem dL_law_1429 : decode cL_law 1429 = .ok (.iaload, 1) := by decide +kernel
theorem dL_law_1430 : decode cL_law 1430 = .ok (.invokevirtual 178, 3) := by decide +kernel
theorem dL_law_1433 : decode cL_law 1433 = .ok (.istore 6, 2) := by decide +kernel
theorem dL_law_1435 : decode cL_law 1435 = .ok (.aload_n 2, 1) := by decide +kernel
theorem dL_law_1436 : decode cL_law 1436 = .ok (.invokevirtual 96, 3) := by decide +kernel
theorem dL_law_1439 : decode cL_law 1439 = .ok (.iload 5, 2) := by decide +kernel
theorem dL_law_1441 : decode cL_law 1441 = .ok (.if_icmp .eq 5, 3) := by decide +kernel
theorem dL_law_1444 : decode cL_law 1444 = .ok (.iconst 0, 1) := by decide +kernel
theorem dL_law_1445 : decode cL_law 1445 = .ok (.ireturn, 1) := by decide +kernel
theorem dL_law_1446 : decode cL_law 1446 = .ok (.iload 5, 2) := by decide +kernel
theorem dL_law_1448 : decode cL_law 1448 = .ok (.ifCond .ne 15, 3) := by decide +kernel
theorem dL_law_1451 : decode cL_law 1451 = .ok (.aload_n 3, 1) := by decide +kernel
theorem dL_law_1452 : decode cL_law 1452 = .ok (.iconst 0, 1) := by decide +kernel
theorem dL_law_1453 : decode cL_law 1453 = .ok (.laload, 1) := by decide +kernel
theorem dL_law_1454 : decode cL_law 1454 = .ok (.iload 6, 2) := by decide +kernel
theorem dL_law_1456 : decode cL_law 1456 = .ok (.i2l, 1) := by decide +kernel
theorem dL_law_1457 : decode cL_law 1457 = .ok (.lcmp, 1) := by decide +kernel
theorem dL_law_1458 : decode cL_law 1458 = .ok (.ifCond .eq 5, 3) := by decide +kernel
theorem dL_law_1461 : decode cL_law 1461 = .ok (.iconst 0, 1) := by decide +kernel
theorem dL_law_1462 : decode cL_law 1462 = .ok (.ireturn, 1) := by decide +kernel
theorem dL_law_1463 : decode cL_law 1463 = .ok (.goto 199, 3) := by decide +kernel
theorem dL_law_1466 : decode cL_law 1466 = .ok (.aload_n 1, 1) := by decide +kernel
theorem dL_law_1467 : decode cL_law 1467 = .ok (.aload_n 0, 1) := by decide +kernel
theorem dL_law_1468 : decode cL_law 1468 = .ok (.iload 4, 2) := by decide +kernel
theorem dL_law_1470 : decode cL_law 1470 = .ok (.iconst 1, 1) := by decide +kernel
theorem dL_law_1471 : decode cL_law 1471 = .ok (.iadd, 1) := by decide +kernel
theorem dL_law_1472 : decode cL_law 1472 = .ok (.iaload, 1) := by decide +kernel
theorem dL_law_1473 : decode cL_law 1473 = .ok (.aload_n 3, 1) := by decide +kernel
theorem dL_law_1474 : decode cL_law 1474 = .ok (.invokestatic 179, 3) := by decide +kernel
theorem dL_law_1477 : decode cL_law 1477 = .ok (.istore 5, 2) := by decide +kernel
theorem dL_law_1479 : decode cL_law 1479 = .ok (.aload_n 2, 1) := by decide +kernel
theorem dL_law_1480 : decode cL_law 1480 = .ok (.aload_n 0, 1) := by decide +kernel
theorem dL_law_1481 : decode cL_law 1481 = .ok (.iload 4, 2) := by decide +kernel
theorem dL_law_1483 : decode cL_law 1483 = .ok (.iconst 1, 1) := by decide +kernel
theorem dL_law_1484 : decode cL_law 1484 = .ok (.iadd, 1) := by decide +kernel
theorem dL_law_1485 : decode cL_law 1485 = .ok (.iaload, 1) := by decide +kernel
theorem dL_law_1486 : decode cL_law 1486 = .ok (.invokevirtual 181, 3) := by decide +kernel
theorem dL_law_1489 : decode cL_law 1489 = .ok (.istore 6, 2) := by decide +kernel
theorem dL_law_1491 : decode cL_law 1491 = .ok (.aload_n 2, 1) := by decide +kernel
theorem dL_law_1492 : decode cL_law 1492 = .ok (.invokevirtual 96, 3) := by decide +kernel
theorem dL_law_1495 : decode cL_law 1495 = .ok (.iload 5, 2) := by decide +kernel
theorem dL_law_1497 : decode cL_law 1497 = .ok (.if_icmp .eq 5, 3) := by decide +kernel
theorem dL_law_1500 : decode cL_law 1500 = .ok (.iconst 0, 1) := by decide +kernel
theorem dL_law_1501 : decode cL_law 1501 = .ok (.ireturn, 1) := by decide +kernel
theorem dL_law_1502 : decode cL_law 1502 = .ok (.iload 5, 2) := by decide +kernel
theorem dL_law_1504 : decode cL_law 1504 = .ok (.ifCond .ne 15, 3) := by decide +kernel
theorem dL_law_1507 : decode cL_law 1507 = .ok (.aload_n 3, 1) := by decide +kernel
theorem dL_law_1508 : decode cL_law 1508 = .ok (.iconst 0, 1) := by decide +kernel
theorem dL_law_1509 : decode cL_law 1509 = .ok (.laload, 1) := by decide +kernel
theorem dL_law_1510 : decode cL_law 1510 = .ok (.iload 6, 2) := by decide +kernel
theorem dL_law_1512 : decode cL_law 1512 = .ok (.i2l, 1) := by decide +kernel
theorem dL_law_1513 : decode cL_law 1513 = .ok (.lcmp, 1) := by decide +kernel
theorem dL_law_1514 : decode cL_law 1514 = .ok (.ifCond .eq 5, 3) := by decide +kernel
theorem dL_law_1517 : decode cL_law 1517 = .ok (.iconst 0, 1) := by decide +kernel
theorem dL_law_1518 : decode cL_law 1518 = .ok (.ireturn, 1) := by decide +kernel
theorem dL_law_1519 : decode cL_law 1519 = .ok (.goto 143, 3) := by decide +kernel
theorem dL_law_1522 : decode cL_law 1522 = .ok (.aload_n 1, 1) := by decide +kernel
theorem dL_law_1523 : decode cL_law 1523 = .ok (.invokevirtual 182, 3) := by decide +kernel
theorem dL_law_1526 : decode cL_law 1526 = .ok (.aload_n 2, 1) := by decide +kernel
theorem dL_law_1527 : decode cL_law 1527 = .ok (.invokevirtual 185, 3) := by decide +kernel
theorem dL_law_1530 : decode cL_law 1530 = .ok (.if_icmp .eq 132, 3) := by decide +kernel
theorem dL_law_1533 : decode cL_law 1533 = .ok (.iconst 0, 1) := by decide +kernel
theorem dL_law_1534 : decode cL_law 1534 = .ok (.ireturn, 1) := by decide +kernel
theorem dL_law_1535 : decode cL_law 1535 = .ok (.aload_n 1, 1) := by decide +kernel
theorem dL_law_1536 : decode cL_law 1536 = .ok (.invokevirtual 186, 3) := by decide +kernel
theorem dL_law_1539 : decode cL_law 1539 = .ok (.aload_n 2, 1) := by decide +kernel
theorem dL_law_1540 : decode cL_law 1540 = .ok (.invokevirtual 189, 3) := by decide +kernel
theorem dL_law_1543 : decode cL_law 1543 = .ok (.if_icmp .eq 119, 3) := by decide +kernel
theorem dL_law_1546 : decode cL_law 1546 = .ok (.iconst 0, 1) := by decide +kernel
theorem dL_law_1547 : decode cL_law 1547 = .ok (.ireturn, 1) := by decide +kernel
theorem dL_law_1548 : decode cL_law 1548 = .ok (.aload_n 1, 1) := by decide +kernel
theorem dL_law_1549 : decode cL_law 1549 = .ok (.aload_n 0, 1) := by decide +kernel
theorem dL_law_1550 : decode cL_law 1550 = .ok (.iload 4, 2) := by decide +kernel
theorem dL_law_1552 : decode cL_law 1552 = .ok (.iconst 1, 1) := by decide +kernel
theorem dL_law_1553 : decode cL_law 1553 = .ok (.iadd, 1) := by decide +kernel
theorem dL_law_1554 : decode cL_law 1554 = .ok (.iaload, 1) := by decide +kernel
theorem dL_law_1555 : decode cL_law 1555 = .ok (.aload_n 3, 1) := by decide +kernel
theorem dL_law_1556 : decode cL_law 1556 = .ok (.invokestatic 190, 3) := by decide +kernel
theorem dL_law_1559 : decode cL_law 1559 = .ok (.istore 5, 2) := by decide +kernel
theorem dL_law_1561 : decode cL_law 1561 = .ok (.aload_n 2, 1) := by decide +kernel
theorem dL_law_1562 : decode cL_law 1562 = .ok (.aload_n 0, 1) := by decide +kernel
theorem dL_law_1563 : decode cL_law 1563 = .ok (.iload 4, 2) := by decide +kernel
theorem dL_law_1565 : decode cL_law 1565 = .ok (.iconst 1, 1) := by decide +kernel
theorem dL_law_1566 : decode cL_law 1566 = .ok (.iadd, 1) := by decide +kernel
theorem dL_law_1567 : decode cL_law 1567 = .ok (.iaload, 1) := by decide +kernel
theorem dL_law_1568 : decode cL_law 1568 = .ok (.invokevirtual 192, 3) := by decide +kernel
theorem dL_law_1571 : decode cL_law 1571 = .ok (.istore 6, 2) := by decide +kernel
theorem dL_law_1573 : decode cL_law 1573 = .ok (.aload_n 2, 1) := by decide +kernel
theorem dL_law_1574 : decode cL_law 1574 = .ok (.invokevirtual 96, 3) := by decide +kernel
theorem dL_law_1577 : decode cL_law 1577 = .ok (.iload 5, 2) := by decide +kernel
theorem dL_law_1579 : decode cL_law 1579 = .ok (.if_icmp .eq 5, 3) := by decide +kernel
theorem dL_law_1582 : decode cL_law 1582 = .ok (.iconst 0, 1) := by decide +kernel
theorem dL_law_1583 : decode cL_law 1583 = .ok (.ireturn, 1) := by decide +kernel
theorem dL_law_1584 : decode cL_law 1584 = .ok (.iload 5, 2) := by decide +kernel
theorem dL_law_1586 : decode cL_law 1586 = .ok (.ifCond .ne 15, 3) := by decide +kernel
theorem dL_law_1589 : decode cL_law 1589 = .ok (.aload_n 3, 1) := by decide +kernel
theorem dL_law_1590 : decode cL_law 1590 = .ok (.iconst 0, 1) := by decide +kernel
theorem dL_law_1591 : decode cL_law 1591 = .ok (.laload, 1) := by decide +kernel
theorem dL_law_1592 : decode cL_law 1592 = .ok (.iload 6, 2) := by decide +kernel
theorem dL_law_1594 : decode cL_law 1594 = .ok (.i2l, 1) := by decide +kernel
theorem dL_law_1595 : decode cL_law 1595 = .ok (.lcmp, 1) := by decide +kernel
theorem dL_law_1596 : decode cL_law 1596 = .ok (.ifCond .eq 5, 3) := by decide +kernel
theorem dL_law_1599 : decode cL_law 1599 = .ok (.iconst 0, 1) := by decide +kernel
theorem dL_law_1600 : decode cL_law 1600 = .ok (.ireturn, 1) := by decide +kernel
theorem dL_law_1601 : decode cL_law 1601 = .ok (.goto 61, 3) := by decide +kernel
theorem dL_law_1604 : decode cL_law 1604 = .ok (.aload_n 1, 1) := by decide +kernel
theorem dL_law_1605 : decode cL_law 1605 = .ok (.aload_n 3, 1) := by decide +kernel
theorem dL_law_1606 : decode cL_law 1606 = .ok (.invokestatic 193, 3) := by decide +kernel
theorem dL_law_1609 : decode cL_law 1609 = .ok (.istore 5, 2) := by decide +kernel
theorem dL_law_1611 : decode cL_law 1611 = .ok (.aload_n 2, 1) := by decide +kernel
theorem dL_law_1612 : decode cL_law 1612 = .ok (.invokevirtual 195, 3) := by decide +kernel
theorem dL_law_1615 : decode cL_law 1615 = .ok (.istore 6, 2) := by decide +kernel
theorem dL_law_1617 : decode cL_law 1617 = .ok (.aload_n 2, 1) := by decide +kernel
theorem dL_law_1618 : decode cL_law 1618 = .ok (.invokevirtual 96, 3) := by decide +kernel
theorem dL_law_1621 : decode cL_law 1621 = .ok (.iload 5, 2) := by decide +kernel
theorem dL_law_1623 : decode cL_law 1623 = .ok (.if_icmp .eq 5, 3) := by decide +kernel
theorem dL_law_1626 : decode cL_law 1626 = .ok (.iconst 0, 1) := by decide +kernel
theorem dL_law_1627 : decode cL_law 1627 = .ok (.ireturn, 1) := by decide +kernel
theorem dL_law_1628 : decode cL_law 1628 = .ok (.iload 5, 2) := by decide +kernel
theorem dL_law_1630 : decode cL_law 1630 = .ok (.ifCond .ne 15, 3) := by decide +kernel
theorem dL_law_1633 : decode cL_law 1633 = .ok (.aload_n 3, 1) := by decide +kernel
theorem dL_law_1634 : decode cL_law 1634 = .ok (.iconst 0, 1) := by decide +kernel
theorem dL_law_1635 : decode cL_law 1635 = .ok (.laload, 1) := by decide +kernel
theorem dL_law_1636 : decode cL_law 1636 = .ok (.iload 6, 2) := by decide +kernel
theorem dL_law_1638 : decode cL_law 1638 = .ok (.i2l, 1) := by decide +kernel
theorem dL_law_1639 : decode cL_law 1639 = .ok (.lcmp, 1) := by decide +kernel
theorem dL_law_1640 : decode cL_law 1640 = .ok (.ifCond .eq 5, 3) := by decide +kernel
theorem dL_law_1643 : decode cL_law 1643 = .ok (.iconst 0, 1) := by decide +kernel
theorem dL_law_1644 : decode cL_law 1644 = .ok (.ireturn, 1) := by decide +kernel
theorem dL_law_1645 : decode cL_law 1645 = .ok (.goto 17, 3) := by decide +kernel
theorem dL_law_1648 : decode cL_law 1648 = .ok (.aload_n 1, 1) := by decide +kernel
theorem dL_law_1649 : decode cL_law 1649 = .ok (.invokevirtual 196, 3) := by decide +kernel
theorem dL_law_1652 : decode cL_law 1652 = .ok (.aload_n 2, 1) := by decide +kernel
theorem dL_law_1653 : decode cL_law 1653 = .ok (.invokevirtual 200, 3) := by decide +kernel
theorem dL_law_1656 : decode cL_law 1656 = .ok (.lcmp, 1) := by decide +kernel
theorem dL_law_1657 : decode cL_law 1657 = .ok (.ifCond .eq 5, 3) := by decide +kernel
theorem dL_law_1660 : decode cL_law 1660 = .ok (.iconst 0, 1) := by decide +kernel
theorem dL_law_1661 : decode cL_law 1661 = .ok (.ireturn, 1) := by decide +kernel
theorem dL_law_1662 : decode cL_law 1662 = .ok (.iinc 4 5, 3) := by decide +kernel
theorem dL_law_1665 : decode cL_law 1665 = .ok (.goto (-1642), 3) := by decide +kernel
theorem dL_law_1668 : decode cL_law 1668 = .ok (.iconst 1, 1) := by decide +kernel
theorem dL_law_1669 : decode cL_law 1669 = .ok (.ireturn, 1) := by decide +kernel
abbrev vwCl : List vw_C := [(RX0, TX0, 10), (RX1, TX1, 5), (RX2, TX2, 10), (RX3, TX3, 12), (RX4, TX4, 24)]
