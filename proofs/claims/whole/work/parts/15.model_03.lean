def l_X4_lineOf_11 (p0 : Nat) (p1 : Int32) (p2 : Int32) (h : Hp) : Nat → Int32 → Int32 → Option Int32
  | 0, _, _ => none
  | fuel + 1, x3, x4 =>
    (fR 4 0 h p0).bind fun v1 =>
    (aI h v1 (0 : Int32)).bind fun v2 =>
    if v2 ≤ x4 then (
      some x3
    ) else (
      (f_X4_signOf p0 p1 p2 x4 h).bind fun v4 =>
      (
        if v4 = 0 then (
          some (((1 : Int32) <<< (x4 &&& 31)))
        ) else (
          some ((0 : Int32))
        )
      ).bind fun v6 =>
      l_X4_lineOf_11 p0 p1 p2 h fuel (x3 ||| v6) (x4 + 1)
    )
def f_X4_lineOf (o : Nat) (a1 : Int32) (a2 : Int32) (h : Hp) : Option Int32 :=
  (rc 4 h o).bind fun _ =>
  (l_X4_lineOf_11 o a1 a2 h FU (((1 : Int32) <<< (a1 &&& 31)) ||| ((1 : Int32) <<< (a2 &&& 31))) (0 : Int32)).bind fun v10 =>
  some (v10)
set_option maxHeartbeats 2000000 in
set_option maxRecDepth 20000 in
theorem L_X4_lineOf_11 {g : GT} {Γ : CT} {Q : State → Prop} {mc ms : Nat} (C : Cx g Γ cX4_lineOf RX4 "lineOf" 5 (some .int) 8 mc ms) {p0 : Nat} {p1 : Int32} {p2 : Int32} {h : Hp} : ∀ {fuel : Nat} {x3 : Int32} {x4 : Int32} {y3 : Int32}, l_X4_lineOf_11 p0 p1 p2 h fuel x3 x4 = some y3 → U g Γ 5 Q 0 0 50 [(3, .int y3)] [] h → U g Γ 5 Q 0 0 11 [(0, .ref p0), (1, .int p1), (2, .int p2), (3, .int x3), (4, .int x4)] [] h := by
  intro fuel
  induction fuel with
  | zero =>
    intro x3 x4 y3 hf J0
    simp only [l_X4_lineOf_11, reduceCtorEq] at hf
  | succ fuel ih =>
    intro x3 x4 y3 hf J0
    rw [l_X4_lineOf_11] at hf
    refine U_iload (n := 13) 4 C dX4_lineOf_11 rfl rfl ?_
    refine U_aload_n (n := 14) 0 C dX4_lineOf_13 rfl rfl rfl ?_
    refine gf_RX4_7 (n := 17) C dX4_lineOf_14 hf rfl (fun v1 hf => ?_)
    refine U_iconst (n := 18) (0 : Int32) C dX4_lineOf_17 kiconst_0 rfl ?_
    refine U_iald (n := 19) C dX4_lineOf_18 hf rfl (fun v2 hf => ?_)
    refine U_icge (tgt := 50) (n := 22) C dX4_lineOf_19 (by decide) rfl (fun c3 => ?_) (fun c3 => ?_)
    · replace hf := (if_pos c3).symm.trans hf
      have hr := Option.some.inj hf
      subst hr
      exact U_lv [3] rfl J0
    · replace hf := (if_neg c3).symm.trans hf
      refine U_iload_n (n := 23) 3 C dX4_lineOf_22 rfl rfl ?_
      refine U_aload_n (n := 24) 0 C dX4_lineOf_23 rfl rfl rfl ?_
      refine U_iload_n (n := 25) 1 C dX4_lineOf_24 rfl rfl ?_
      refine U_iload_n (n := 26) 2 C dX4_lineOf_25 rfl rfl ?_
      refine U_iload (n := 28) 4 C dX4_lineOf_26 rfl rfl ?_
      obtain ⟨v4, ev4, hf⟩ := bsome hf
      refine cv_RX4_129 (n := 31) C dX4_lineOf_28 (av := [.int p1, .int p2, .int x4]) rfl (rc_X4_signOf ev4) (M_X4_signOf ev4) (Nat.le_of_ble_eq_true rfl) (Nat.zero_le _) (Nat.zero_le _) (Nat.le_of_ble_eq_true rfl) rfl ?_
      refine U_join1 (fun v6 => U g Γ 5 Q 0 0 42 [(0, .ref p0), (1, .int p1), (2, .int p2), (4, .int x4)] [.int v6, .int x3] h) hf (fun v6 hf => ?_) (fun v6 hf J8 => ?_)
      · skip
        refine U_ior (n := 43) C dX4_lineOf_42 rfl ?_
        refine U_istore_n (n := 44) (lv2 := [(3, .int (x3 ||| v6)), (0, .ref p0), (1, .int p1), (2, .int p2), (4, .int x4)]) C dX4_lineOf_43 (by decide) rfl rfl ?_
        refine U_iinc (n := 47) (v := (x4 + 1)) (lv2 := [(4, .int (x4 + 1)), (3, .int (x3 ||| v6)), (0, .ref p0), (1, .int p1), (2, .int p2)]) 4 C dX4_lineOf_44 rfl rfl (by decide) rfl rfl ?_
        refine U_goto (n := 0) (tgt := 11) C dX4_lineOf_47 (by decide) ?_
        exact U_lv [2, 3, 4, 1, 0] rfl (ih hf J0)
      · skip
        refine U_ifne (tgt := 41) (n := 34) C dX4_lineOf_31 (by decide) rfl (fun c5 => ?_) (fun c5 => ?_)
        · replace hf := (if_pos c5).symm.trans hf
          refine U_iconst (n := 35) (1 : Int32) C dX4_lineOf_34 kiconst_1 rfl ?_
          refine U_iload (n := 37) 4 C dX4_lineOf_35 rfl rfl ?_
          refine U_ishl (n := 38) C dX4_lineOf_37 rfl ?_
          refine U_goto (n := 0) (tgt := 42) C dX4_lineOf_38 (by decide) ?_
          have hr := Option.some.inj hf
          subst hr
          exact U_lv [0, 1, 2, 4] rfl J8
        · replace hf := (if_neg c5).symm.trans hf
          refine U_iconst (n := 42) (0 : Int32) C dX4_lineOf_41 kiconst_0 rfl ?_
          have hr := Option.some.inj hf
          subst hr
          exact U_lv [0, 1, 2, 4] rfl J8
theorem rc_X4_lineOf {o : Nat} {a1 : Int32} {a2 : Int32} {h : Hp} {z} (hf : f_X4_lineOf o a1 a2 h = some z) : rc 4 h o = some () := by
  unfold f_X4_lineOf at hf
  exact (bsome hf).choose_spec.1
set_option maxHeartbeats 2000000 in
set_option maxRecDepth 20000 in
theorem M_X4_lineOf {g : GT} {o : Nat} {a1 : Int32} {a2 : Int32} {h : Hp} {r : Int32} (hf : f_X4_lineOf o a1 a2 h = some r) : CM g yX4_lineOf cX4_lineOf 5 (some .int) 8 0 0 [.ref o, .int a1, .int a2] h (.inr (some (.int r))) h := by
  refine CM_of rfl (fun _ => Nat.le_of_ble_eq_true rfl) (fun Γ C hn0 => ?_)
  have C : Cx g Γ cX4_lineOf RX4 "lineOf" 5 (some .int) 8 0 0 := C
  generalize hQ : Qe g Γ (.inr (some (.int r))) h 0 0 = Q
  show U g Γ 5 Q 0 0 0 [(0, .ref o), (1, .int a1), (2, .int a2)] [] h
  unfold f_X4_lineOf at hf
  replace hf := (bsome hf).choose_spec.2
  refine U_iconst (n := 1) (1 : Int32) C dX4_lineOf_0 kiconst_1 rfl ?_
  refine U_iload_n (n := 2) 1 C dX4_lineOf_1 rfl rfl ?_
  refine U_ishl (n := 3) C dX4_lineOf_2 rfl ?_
  refine U_iconst (n := 4) (1 : Int32) C dX4_lineOf_3 kiconst_1 rfl ?_
  refine U_iload_n (n := 5) 2 C dX4_lineOf_4 rfl rfl ?_
  refine U_ishl (n := 6) C dX4_lineOf_5 rfl ?_
  refine U_ior (n := 7) C dX4_lineOf_6 rfl ?_
  refine U_istore_n (n := 8) (lv2 := [(3, .int (((1 : Int32) <<< (a1 &&& 31)) ||| ((1 : Int32) <<< (a2 &&& 31)))), (0, .ref o), (1, .int a1), (2, .int a2)]) C dX4_lineOf_7 (by decide) rfl rfl ?_
  refine U_iconst (n := 9) (0 : Int32) C dX4_lineOf_8 kiconst_0 rfl ?_
  refine U_istore (n := 11) (lv2 := [(4, .int (0 : Int32)), (3, .int (((1 : Int32) <<< (a1 &&& 31)) ||| ((1 : Int32) <<< (a2 &&& 31)))), (0, .ref o), (1, .int a1), (2, .int a2)]) C dX4_lineOf_9 (by decide) rfl rfl ?_
  refine U_join1 (fun v10 => U g Γ 5 Q 0 0 50 [(3, .int v10)] [] h) hf (fun v10 hf => ?_) (fun v10 hf J => U_lv [2, 3, 4, 1, 0] rfl (L_X4_lineOf_11 C hf J))
  refine U_iload_n (n := 51) 0 C dX4_lineOf_50 rfl rfl ?_
  have hr := (Option.some.inj hf)
  subst hr
  subst hQ
  exact U_iret C dX4_lineOf_51 (Nat.le_refl 0) (Nat.le_refl 0)
def l_X4_lines_56 (p0 : Nat) (p1 : Int32) (p4 : Int32) (h : Hp) : Nat → Int32 → Int32 → Option Int32
  | 0, _, _ => none
  | fuel + 1, x5, x6 =>
    if p1 ≤ x6 then (
      some x5
    ) else (
      (
        if x5 = 0 then (
          (fR 4 18 h p0).bind fun v16 =>
          (aI h v16 x6).bind fun v17 =>
          if v17 = p4 then (
            some ((1 : Int32))
          ) else (
            some ((0 : Int32))
          )
        ) else (
          some ((1 : Int32))
        )
      ).bind fun v12 =>
      l_X4_lines_56 p0 p1 p4 h fuel v12 (x6 + 1)
    )
def l_X4_lines_32 (p0 : Nat) (p2 : Int32) : Nat → Int32 → Int32 → Hp → Option (Int32 × Hp)
  | 0, _, _, _ => none
  | fuel + 1, x1, x3, h =>
    (fR 4 0 h p0).bind fun v6 =>
    (aI h v6 (0 : Int32)).bind fun v7 =>
    if v7 ≤ x3 then (
      some ((x1, h))
    ) else (
      (f_X4_lineOf p0 p2 x3 h).bind fun v9 =>
      (l_X4_lines_56 p0 x1 v9 h FU (0 : Int32) (0 : Int32)).bind fun v19 =>
      bind2 (
        if v19 = 0 then (
          (fR 4 18 h p0).bind fun v26 =>
          (wI h v26 x1 v9).bind fun h27 =>
          some (((x1 + 1), h27))
        ) else (
          some ((x1, h))
        )
      ) fun v21 h22 =>
      l_X4_lines_32 p0 p2 fuel v21 (x3 + 1) h22
    )
def l_X4_lines_18 (p0 : Nat) : Nat → Int32 → Int32 → Hp → Option (Int32 × Hp)
  | 0, _, _, _ => none
  | fuel + 1, x1, x2, h =>
    (fR 4 0 h p0).bind fun v3 =>
    (aI h v3 (0 : Int32)).bind fun v4 =>
    if v4 ≤ x2 then (
      some ((x1, h))
    ) else (
      bind2 (l_X4_lines_32 p0 x2 FU x1 (x2 + (1 : Int32)) h) fun v28 h29 =>
      l_X4_lines_18 p0 fuel v28 (x2 + 1) h29
    )
def f_X4_lines (o : Nat) (h : Hp) : Option (Int32 × Hp) :=
  (rc 4 h o).bind fun _ =>
  (f_X4_many o (0 : Int32) h).bind fun v1 =>
  if v1 ≤ 0 then (
    bind2 (l_X4_lines_18 o FU (0 : Int32) (0 : Int32) h) fun v30 h31 =>
    bind2 (f_X4_tells o v30 h31) fun v32 h33 =>
    some ((v32, h33))
  ) else (
    bind2 (f_X4_fails o (1 : Int32) h) fun v34 h35 =>
    some ((v34, h35))
  )
set_option maxHeartbeats 2000000 in
set_option maxRecDepth 20000 in
theorem L_X4_lines_56 {g : GT} {Γ : CT} {Q : State → Prop} {mc ms : Nat} (C : Cx g Γ cX4_lines RX4 "lines" 7 (some .int) 9 mc ms) {p0 : Nat} {p1 : Int32} {p2 : Int32} {p3 : Int32} {p4 : Int32} {h : Hp} : ∀ {fuel : Nat} {x5 : Int32} {x6 : Int32} {y5 : Int32}, l_X4_lines_56 p0 p1 p4 h fuel x5 x6 = some y5 → U g Γ 7 Q 0 0 92 [(0, .ref p0), (1, .int p1), (2, .int p2), (3, .int p3), (4, .int p4), (5, .int y5)] [] h → U g Γ 7 Q 0 0 56 [(0, .ref p0), (1, .int p1), (2, .int p2), (3, .int p3), (4, .int p4), (5, .int x5), (6, .int x6)] [] h := by
  intro fuel
  induction fuel with
  | zero =>
    intro x5 x6 y5 hf J0
    simp only [l_X4_lines_56, reduceCtorEq] at hf
  | succ fuel ih =>
    intro x5 x6 y5 hf J0
    rw [l_X4_lines_56] at hf
    refine U_iload (n := 58) 6 C dX4_lines_56 rfl rfl ?_
    refine U_iload_n (n := 59) 1 C dX4_lines_58 rfl rfl ?_
    refine U_icge (tgt := 92) (n := 62) C dX4_lines_59 (by decide) rfl (fun c10 => ?_) (fun c10 => ?_)
    · replace hf := (if_pos c10).symm.trans hf
      have hr := Option.some.inj hf
      subst hr
      exact U_lv [0, 1, 2, 3, 4, 5] rfl J0
    · replace hf := (if_neg c10).symm.trans hf
      refine U_iload (n := 64) 5 C dX4_lines_62 rfl rfl ?_
      refine U_join1 (fun v12 => U g Γ 7 Q 0 0 84 [(0, .ref p0), (1, .int p1), (2, .int p2), (3, .int p3), (4, .int p4), (6, .int x6)] [.int v12] h) hf (fun v12 hf => ?_) (fun v12 hf J14 => ?_)
      · skip
        refine U_istore (n := 86) (lv2 := [(5, .int v12), (0, .ref p0), (1, .int p1), (2, .int p2), (3, .int p3), (4, .int p4), (6, .int x6)]) C dX4_lines_84 (by decide) rfl rfl ?_
        refine U_iinc (n := 89) (v := (x6 + 1)) (lv2 := [(6, .int (x6 + 1)), (5, .int v12), (0, .ref p0), (1, .int p1), (2, .int p2), (3, .int p3), (4, .int p4)]) 6 C dX4_lines_86 rfl rfl (by decide) rfl rfl ?_
        refine U_goto (n := 0) (tgt := 56) C dX4_lines_89 (by decide) ?_
        exact U_lv [2, 3, 4, 5, 6, 1, 0] rfl (ih hf J0)
      · skip
        refine U_ifne (tgt := 79) (n := 67) C dX4_lines_64 (by decide) rfl (fun c11 => ?_) (fun c11 => ?_)
        · replace hf := (if_pos c11).symm.trans hf
          refine U_aload_n (n := 68) 0 C dX4_lines_67 rfl rfl rfl ?_
          refine gf_RX4_47 (n := 71) C dX4_lines_68 hf rfl (fun v16 hf => ?_)
          refine U_iload (n := 73) 6 C dX4_lines_71 rfl rfl ?_
          refine U_iald (n := 74) C dX4_lines_73 hf rfl (fun v17 hf => ?_)
          refine U_iload (n := 76) 4 C dX4_lines_74 rfl rfl ?_
          refine U_icne (tgt := 83) (n := 79) C dX4_lines_76 (by decide) rfl (fun c18 => ?_) (fun c18 => ?_)
          · replace hf := (if_pos c18).symm.trans hf
            refine U_iconst (n := 80) (1 : Int32) C dX4_lines_79 kiconst_1 rfl ?_
            refine U_goto (n := 0) (tgt := 84) C dX4_lines_80 (by decide) ?_
            have hr := Option.some.inj hf
            subst hr
            exact U_lv [0, 1, 2, 3, 4, 6] rfl J14
          · replace hf := (if_neg c18).symm.trans hf
            refine U_iconst (n := 84) (0 : Int32) C dX4_lines_83 kiconst_0 rfl ?_
            have hr := Option.some.inj hf
            subst hr
            exact U_lv [0, 1, 2, 3, 4, 6] rfl J14
        · replace hf := (if_neg c11).symm.trans hf
          refine U_iconst (n := 80) (1 : Int32) C dX4_lines_79 kiconst_1 rfl ?_
          refine U_goto (n := 0) (tgt := 84) C dX4_lines_80 (by decide) ?_
          have hr := Option.some.inj hf
          subst hr
          exact U_lv [0, 1, 2, 3, 4, 6] rfl J14
set_option maxHeartbeats 2000000 in
set_option maxRecDepth 20000 in
theorem L_X4_lines_32 {g : GT} {Γ : CT} {Q : State → Prop} {mc ms : Nat} (C : Cx g Γ cX4_lines RX4 "lines" 7 (some .int) 9 mc ms) {p0 : Nat} {p2 : Int32} : ∀ {fuel : Nat} {x1 : Int32} {x3 : Int32} {h : Hp} {y1 : Int32} {hy : Hp}, l_X4_lines_32 p0 p2 fuel x1 x3 h = some (y1, hy) → U g Γ 7 Q 0 0 114 [(0, .ref p0), (1, .int y1), (2, .int p2)] [] hy → U g Γ 7 Q 0 0 32 [(0, .ref p0), (1, .int x1), (2, .int p2), (3, .int x3)] [] h := by
  intro fuel
  induction fuel with
  | zero =>
    intro x1 x3 h y1 hy hf J0
    simp only [l_X4_lines_32, reduceCtorEq] at hf
  | succ fuel ih =>
    intro x1 x3 h y1 hy hf J0
    rw [l_X4_lines_32] at hf
    refine U_iload_n (n := 33) 3 C dX4_lines_32 rfl rfl ?_
    refine U_aload_n (n := 34) 0 C dX4_lines_33 rfl rfl rfl ?_
    refine gf_RX4_7 (n := 37) C dX4_lines_34 hf rfl (fun v6 hf => ?_)
    refine U_iconst (n := 38) (0 : Int32) C dX4_lines_37 kiconst_0 rfl ?_
    refine U_iald (n := 39) C dX4_lines_38 hf rfl (fun v7 hf => ?_)
    refine U_icge (tgt := 114) (n := 42) C dX4_lines_39 (by decide) rfl (fun c8 => ?_) (fun c8 => ?_)
    · replace hf := (if_pos c8).symm.trans hf
      obtain ⟨hr0, hs0⟩ := Prod.mk.inj (Option.some.inj hf)
      subst hr0
      subst hs0
      exact U_lv [0, 1, 2] rfl J0
    · replace hf := (if_neg c8).symm.trans hf
      refine U_aload_n (n := 43) 0 C dX4_lines_42 rfl rfl rfl ?_
      refine U_iload_n (n := 44) 2 C dX4_lines_43 rfl rfl ?_
      refine U_iload_n (n := 45) 3 C dX4_lines_44 rfl rfl ?_
      obtain ⟨v9, ev9, hf⟩ := bsome hf
      refine cv_RX4_208 (n := 48) C dX4_lines_45 (av := [.int p2, .int x3]) rfl (rc_X4_lineOf ev9) (M_X4_lineOf ev9) (Nat.le_of_ble_eq_true rfl) (Nat.zero_le _) (Nat.zero_le _) (Nat.le_of_ble_eq_true rfl) rfl ?_
      refine U_istore (n := 50) (lv2 := [(4, .int v9), (0, .ref p0), (1, .int x1), (2, .int p2), (3, .int x3)]) C dX4_lines_48 (by decide) rfl rfl ?_
      refine U_iconst (n := 51) (0 : Int32) C dX4_lines_50 kiconst_0 rfl ?_
      refine U_istore (n := 53) (lv2 := [(5, .int (0 : Int32)), (4, .int v9), (0, .ref p0), (1, .int x1), (2, .int p2), (3, .int x3)]) C dX4_lines_51 (by decide) rfl rfl ?_
      refine U_iconst (n := 54) (0 : Int32) C dX4_lines_53 kiconst_0 rfl ?_
      refine U_istore (n := 56) (lv2 := [(6, .int (0 : Int32)), (5, .int (0 : Int32)), (4, .int v9), (0, .ref p0), (1, .int x1), (2, .int p2), (3, .int x3)]) C dX4_lines_54 (by decide) rfl rfl ?_
      refine U_join1 (fun v19 => U g Γ 7 Q 0 0 92 [(0, .ref p0), (1, .int x1), (2, .int p2), (3, .int x3), (4, .int v9), (5, .int v19)] [] h) hf (fun v19 hf => ?_) (fun v19 hf J => U_lv [3, 4, 5, 6, 2, 1, 0] rfl (L_X4_lines_56 C hf J))
      refine U_iload (n := 94) 5 C dX4_lines_92 rfl rfl ?_
      refine U_join2 (fun v21 h22 => U g Γ 7 Q 0 0 108 [(0, .ref p0), (1, .int v21), (2, .int p2), (3, .int x3)] [] h22) hf (fun v21 h22 hf => ?_) (fun v21 h22 hf J24 => ?_)
      · skip
        refine U_iinc (n := 111) (v := (x3 + 1)) (lv2 := [(3, .int (x3 + 1)), (0, .ref p0), (1, .int v21), (2, .int p2)]) 3 C dX4_lines_108 rfl rfl (by decide) rfl rfl ?_
        refine U_goto (n := 0) (tgt := 32) C dX4_lines_111 (by decide) ?_
        exact U_lv [1, 2, 3, 0] rfl (ih hf J0)
      · skip
        refine U_ifne (tgt := 108) (n := 97) C dX4_lines_94 (by decide) rfl (fun c20 => ?_) (fun c20 => ?_)
        · replace hf := (if_pos c20).symm.trans hf
          refine U_aload_n (n := 98) 0 C dX4_lines_97 rfl rfl rfl ?_
          refine gf_RX4_47 (n := 101) C dX4_lines_98 hf rfl (fun v26 hf => ?_)
          refine U_iload_n (n := 102) 1 C dX4_lines_101 rfl rfl ?_
          refine U_iload (n := 104) 4 C dX4_lines_102 rfl rfl ?_
          refine U_iast (n := 105) C dX4_lines_104 hf rfl (fun h27 hf => ?_)
          refine U_iinc (n := 108) (v := (x1 + 1)) (lv2 := [(1, .int (x1 + 1)), (0, .ref p0), (2, .int p2), (3, .int x3), (4, .int v9), (5, .int v19)]) 1 C dX4_lines_105 rfl rfl (by decide) rfl rfl ?_
          obtain ⟨hr0, hs0⟩ := Prod.mk.inj (Option.some.inj hf)
          subst hr0
          subst hs0
          exact U_lv [1, 0, 2, 3] rfl J24
        · replace hf := (if_neg c20).symm.trans hf
          obtain ⟨hr0, hs0⟩ := Prod.mk.inj (Option.some.inj hf)
          subst hr0
          subst hs0
          exact U_lv [0, 1, 2, 3] rfl J24
set_option maxHeartbeats 2000000 in
set_option maxRecDepth 20000 in
theorem L_X4_lines_18 {g : GT} {Γ : CT} {Q : State → Prop} {mc ms : Nat} (C : Cx g Γ cX4_lines RX4 "lines" 7 (some .int) 9 mc ms) {p0 : Nat} : ∀ {fuel : Nat} {x1 : Int32} {x2 : Int32} {h : Hp} {y1 : Int32} {hy : Hp}, l_X4_lines_18 p0 fuel x1 x2 h = some (y1, hy) → U g Γ 7 Q 0 0 120 [(0, .ref p0), (1, .int y1)] [] hy → U g Γ 7 Q 0 0 18 [(0, .ref p0), (1, .int x1), (2, .int x2)] [] h := by
  intro fuel
  induction fuel with
  | zero =>
    intro x1 x2 h y1 hy hf J0
    simp only [l_X4_lines_18, reduceCtorEq] at hf
  | succ fuel ih =>
    intro x1 x2 h y1 hy hf J0
    rw [l_X4_lines_18] at hf
    refine U_iload_n (n := 19) 2 C dX4_lines_18 rfl rfl ?_
    refine U_aload_n (n := 20) 0 C dX4_lines_19 rfl rfl rfl ?_
    refine gf_RX4_7 (n := 23) C dX4_lines_20 hf rfl (fun v3 hf => ?_)
    refine U_iconst (n := 24) (0 : Int32) C dX4_lines_23 kiconst_0 rfl ?_
    refine U_iald (n := 25) C dX4_lines_24 hf rfl (fun v4 hf => ?_)
    refine U_icge (tgt := 120) (n := 28) C dX4_lines_25 (by decide) rfl (fun c5 => ?_) (fun c5 => ?_)
    · replace hf := (if_pos c5).symm.trans hf
      obtain ⟨hr0, hs0⟩ := Prod.mk.inj (Option.some.inj hf)
      subst hr0
      subst hs0
      exact U_lv [0, 1] rfl J0
    · replace hf := (if_neg c5).symm.trans hf
      refine U_iload_n (n := 29) 2 C dX4_lines_28 rfl rfl ?_
      refine U_iconst (n := 30) (1 : Int32) C dX4_lines_29 kiconst_1 rfl ?_
      refine U_iadd (n := 31) C dX4_lines_30 rfl ?_
      refine U_istore_n (n := 32) (lv2 := [(3, .int (x2 + (1 : Int32))), (0, .ref p0), (1, .int x1), (2, .int x2)]) C dX4_lines_31 (by decide) rfl rfl ?_
      refine U_join2 (fun v28 h29 => U g Γ 7 Q 0 0 114 [(0, .ref p0), (1, .int v28), (2, .int x2)] [] h29) hf (fun v28 h29 hf => ?_) (fun v28 h29 hf J => U_lv [1, 2, 3, 0] rfl (L_X4_lines_32 C hf J))
      refine U_iinc (n := 117) (v := (x2 + 1)) (lv2 := [(2, .int (x2 + 1)), (0, .ref p0), (1, .int v28)]) 2 C dX4_lines_114 rfl rfl (by decide) rfl rfl ?_
      refine U_goto (n := 0) (tgt := 18) C dX4_lines_117 (by decide) ?_
      exact U_lv [1, 2, 0] rfl (ih hf J0)
theorem rc_X4_lines {o : Nat} {h : Hp} {z} (hf : f_X4_lines o h = some z) : rc 4 h o = some () := by
  unfold f_X4_lines at hf
  exact (bsome hf).choose_spec.1
set_option maxHeartbeats 2000000 in
set_option maxRecDepth 20000 in
theorem M_X4_lines {g : GT} {o : Nat} {h : Hp} {r : Int32} {h2 : Hp} (hf : f_X4_lines o h = some (r, h2)) : CM g yX4_lines cX4_lines 7 (some .int) 9 0 0 [.ref o] h (.inr (some (.int r))) h2 := by
  refine CM_of rfl (fun _ => Nat.le_of_ble_eq_true rfl) (fun Γ C hn0 => ?_)
  have C : Cx g Γ cX4_lines RX4 "lines" 7 (some .int) 9 0 0 := C
  generalize hQ : Qe g Γ (.inr (some (.int r))) h2 0 0 = Q
  show U g Γ 7 Q 0 0 0 [(0, .ref o)] [] h
  unfold f_X4_lines at hf
  replace hf := (bsome hf).choose_spec.2
  refine U_aload_n (n := 1) 0 C dX4_lines_0 rfl rfl rfl ?_
  refine U_iconst (n := 2) (0 : Int32) C dX4_lines_1 kiconst_0 rfl ?_
  obtain ⟨v1, ev1, hf⟩ := bsome hf
  refine cv_RX4_161 (n := 5) C dX4_lines_2 (av := [.int (0 : Int32)]) rfl (rc_X4_many ev1) (M_X4_many ev1) (Nat.le_of_ble_eq_true rfl) (Nat.zero_le _) (Nat.zero_le _) (Nat.le_of_ble_eq_true rfl) rfl ?_
  refine U_ifle (tgt := 14) (n := 8) C dX4_lines_5 (by decide) rfl (fun c2 => ?_) (fun c2 => ?_)
  · replace hf := (if_pos c2).symm.trans hf
    refine U_iconst (n := 15) (0 : Int32) C dX4_lines_14 kiconst_0 rfl ?_
    refine U_istore_n (n := 16) (lv2 := [(1, .int (0 : Int32)), (0, .ref o)]) C dX4_lines_15 (by decide) rfl rfl ?_
    refine U_iconst (n := 17) (0 : Int32) C dX4_lines_16 kiconst_0 rfl ?_
    refine U_istore_n (n := 18) (lv2 := [(2, .int (0 : Int32)), (1, .int (0 : Int32)), (0, .ref o)]) C dX4_lines_17 (by decide) rfl rfl ?_
    refine U_join2 (fun v30 h31 => U g Γ 7 Q 0 0 120 [(0, .ref o), (1, .int v30)] [] h31) hf (fun v30 h31 hf => ?_) (fun v30 h31 hf J => U_lv [2, 1, 0] rfl (L_X4_lines_18 C hf J))
    refine U_aload_n (n := 121) 0 C dX4_lines_120 rfl rfl rfl ?_
    refine U_iload_n (n := 122) 1 C dX4_lines_121 rfl rfl ?_
    obtain ⟨v32, h33, ev32, hf⟩ := bsome2 hf
    refine cv_RX4_67 (n := 125) C dX4_lines_122 (av := [.int v30]) rfl (rc_X4_tells ev32) (M_X4_tells ev32) (Nat.le_of_ble_eq_true rfl) (Nat.zero_le _) (Nat.zero_le _) (Nat.le_of_ble_eq_true rfl) rfl ?_
    obtain ⟨hr1, hr2⟩ := Prod.mk.inj (Option.some.inj hf)
    subst hr1; subst hr2
    subst hQ
    exact U_iret C dX4_lines_125 (Nat.le_refl 0) (Nat.le_refl 0)
  · replace hf := (if_neg c2).symm.trans hf
    refine U_aload_n (n := 9) 0 C dX4_lines_8 rfl rfl rfl ?_
    refine U_iconst (n := 10) (1 : Int32) C dX4_lines_9 kiconst_1 rfl ?_
    obtain ⟨v34, h35, ev34, hf⟩ := bsome2 hf
    refine cv_RX4_113 (n := 13) C dX4_lines_10 (av := [.int (1 : Int32)]) rfl (rc_X4_fails ev34) (M_X4_fails ev34) (Nat.le_of_ble_eq_true rfl) (Nat.zero_le _) (Nat.zero_le _) (Nat.le_of_ble_eq_true rfl) rfl ?_
    obtain ⟨hr1, hr2⟩ := Prod.mk.inj (Option.some.inj hf)
    subst hr1; subst hr2
    subst hQ
    exact U_iret C dX4_lines_13 (Nat.le_refl 0) (Nat.le_refl 0)
def f_X4_isPlaced (o : Nat) (a1 : Int32) (h : Hp) : Option Int32 :=
  (rc 4 h o).bind fun _ =>
  (fR 4 0 h o).bind fun v1 =>
  (aI h v1 ((227 : Int32) + ((2 : Int32) * a1))).bind fun v2 =>
  if v2 = (-100 : Int32) then (
    some ((0 : Int32))
  ) else (
    some ((1 : Int32))
  )
theorem rc_X4_isPlaced {o : Nat} {a1 : Int32} {h : Hp} {z} (hf : f_X4_isPlaced o a1 h = some z) : rc 4 h o = some () := by
  unfold f_X4_isPlaced at hf
  exact (bsome hf).choose_spec.1
set_option maxHeartbeats 2000000 in
set_option maxRecDepth 20000 in
theorem M_X4_isPlaced {g : GT} {o : Nat} {a1 : Int32} {h : Hp} {r : Int32} (hf : f_X4_isPlaced o a1 h = some r) : CM g yX4_isPlaced cX4_isPlaced 2 (some .boolean) 6 0 0 [.ref o, .int a1] h (.inr (some (.int r))) h := by
  refine CM_of rfl (fun _ => Nat.le_of_ble_eq_true rfl) (fun Γ C hn0 => ?_)
  have C : Cx g Γ cX4_isPlaced RX4 "isPlaced" 2 (some .boolean) 6 0 0 := C
  generalize hQ : Qe g Γ (.inr (some (.int r))) h 0 0 = Q
  show U g Γ 2 Q 0 0 0 [(0, .ref o), (1, .int a1)] [] h
  unfold f_X4_isPlaced at hf
  replace hf := (bsome hf).choose_spec.2
  refine U_aload_n (n := 1) 0 C dX4_isPlaced_0 rfl rfl rfl ?_
  refine gf_RX4_7 (n := 4) C dX4_isPlaced_1 hf rfl (fun v1 hf => ?_)
  refine U_sipush (n := 7) (227 : Int32) C dX4_isPlaced_4 ksipush_227 rfl ?_
  refine U_iconst (n := 8) (2 : Int32) C dX4_isPlaced_7 kiconst_2 rfl ?_
  refine U_iload_n (n := 9) 1 C dX4_isPlaced_8 rfl rfl ?_
  refine U_imul (n := 10) C dX4_isPlaced_9 rfl ?_
  refine U_iadd (n := 11) C dX4_isPlaced_10 rfl ?_
  refine U_iald (n := 12) C dX4_isPlaced_11 hf rfl (fun v2 hf => ?_)
  refine U_bipush (n := 14) (-100 : Int32) C dX4_isPlaced_12 kbipush_m100 rfl ?_
  refine U_iceq (tgt := 21) (n := 17) C dX4_isPlaced_14 (by decide) rfl (fun c3 => ?_) (fun c3 => ?_)
  · replace hf := (if_pos c3).symm.trans hf
    refine U_iconst (n := 22) (0 : Int32) C dX4_isPlaced_21 kiconst_0 rfl ?_
    have hr := (Option.some.inj hf)
    subst hr
    subst hQ
    exact U_zret C dX4_isPlaced_22 (Or.inl rfl) (Nat.le_refl 0) (Nat.le_refl 0)
  · replace hf := (if_neg c3).symm.trans hf
    refine U_iconst (n := 18) (1 : Int32) C dX4_isPlaced_17 kiconst_1 rfl ?_
    refine U_goto (n := 0) (tgt := 22) C dX4_isPlaced_18 (by decide) ?_
    have hr := (Option.some.inj hf)
    subst hr
    subst hQ
    exact U_zret C dX4_isPlaced_22 (Or.inr rfl) (Nat.le_refl 0) (Nat.le_refl 0)
def f_X4_place (o : Nat) (a1 : Int32) (a2 : Int32) (a3 : Int32) (h : Hp) : Option (Int32 × Hp) :=
  (rc 4 h o).bind fun _ =>
  (f_X4_isPoint o a1 h).bind fun v1 =>
  if v1 = 0 then (
    bind2 (f_X4_fails o (1 : Int32) h) fun v3 h4 =>
    if v3 = 0 then (
      some (((0 : Int32), h4))
    ) else (
      some (((1 : Int32), h4))
    )
  ) else (
    (f_X4_in a2 (-50 : Int32) (50 : Int32)).bind fun v6 =>
    if v6 = 0 then (
      bind2 (f_X4_fails o (2 : Int32) h) fun v8 h9 =>
      if v8 = 0 then (
        some (((0 : Int32), h9))
      ) else (
        some (((1 : Int32), h9))
      )
    ) else (
      (f_X4_in a3 (-50 : Int32) (50 : Int32)).bind fun v11 =>
      if v11 = 0 then (
        bind2 (f_X4_fails o (2 : Int32) h) fun v13 h14 =>
        if v13 = 0 then (
          some (((0 : Int32), h14))
        ) else (
          some (((1 : Int32), h14))
        )
      ) else (
        (f_X4_hold o h).bind fun h17 =>
        (f_X4_isPlaced o a1 h17).bind fun v18 =>
        (fR 4 0 h17 o).bind fun v19 =>
        (wI h17 v19 ((227 : Int32) + ((2 : Int32) * a1)) a2).bind fun h20 =>
        (fR 4 0 h20 o).bind fun v21 =>
        (wI h20 v21 (((227 : Int32) + ((2 : Int32) * a1)) + (1 : Int32)) a3).bind fun h22 =>
        (
          if v18 = 0 then (
            some ((0 : Int32))
          ) else (
            some ((1 : Int32))
          )
        ).bind fun v24 =>
        bind2 (f_X4_ends o v24 h22) fun v28 h29 =>
        if v28 = (1 : Int32) then (
          some (((1 : Int32), h29))
        ) else (
          some (((0 : Int32), h29))
        )
      )
    )
  )
theorem rc_X4_place {o : Nat} {a1 : Int32} {a2 : Int32} {a3 : Int32} {h : Hp} {z} (hf : f_X4_place o a1 a2 a3 h = some z) : rc 4 h o = some () := by
  unfold f_X4_place at hf
  exact (bsome hf).choose_spec.1
set_option maxHeartbeats 2000000 in
set_option maxRecDepth 20000 in
theorem M_X4_place {g : GT} {o : Nat} {a1 : Int32} {a2 : Int32} {a3 : Int32} {h : Hp} {r : Int32} {h2 : Hp} (hf : f_X4_place o a1 a2 a3 h = some (r, h2)) : CM g yX4_place cX4_place 5 (some .boolean) 8 0 0 [.ref o, .int a1, .int a2, .int a3] h (.inr (some (.int r))) h2 := by
  refine CM_of rfl (fun _ => Nat.le_of_ble_eq_true rfl) (fun Γ C hn0 => ?_)
  have C : Cx g Γ cX4_place RX4 "place" 5 (some .boolean) 8 0 0 := C
  generalize hQ : Qe g Γ (.inr (some (.int r))) h2 0 0 = Q
  show U g Γ 5 Q 0 0 0 [(0, .ref o), (1, .int a1), (2, .int a2), (3, .int a3)] [] h
  unfold f_X4_place at hf
  replace hf := (bsome hf).choose_spec.2
  refine U_aload_n (n := 1) 0 C dX4_place_0 rfl rfl rfl ?_
  refine U_iload_n (n := 2) 1 C dX4_place_1 rfl rfl ?_
  obtain ⟨v1, ev1, hf⟩ := bsome hf
  refine cv_RX4_95 (n := 5) C dX4_place_2 (av := [.int a1]) rfl (rc_X4_isPoint ev1) (M_X4_isPoint ev1) (Nat.le_of_ble_eq_true rfl) (Nat.zero_le _) (Nat.zero_le _) (Nat.le_of_ble_eq_true rfl) rfl ?_
  refine U_ifne (tgt := 22) (n := 8) C dX4_place_5 (by decide) rfl (fun c2 => ?_) (fun c2 => ?_)
  · replace hf := (if_pos c2).symm.trans hf
    refine U_aload_n (n := 9) 0 C dX4_place_8 rfl rfl rfl ?_
    refine U_iconst (n := 10) (1 : Int32) C dX4_place_9 kiconst_1 rfl ?_
    obtain ⟨v3, h4, ev3, hf⟩ := bsome2 hf
    refine cv_RX4_113 (n := 13) C dX4_place_10 (av := [.int (1 : Int32)]) rfl (rc_X4_fails ev3) (M_X4_fails ev3) (Nat.le_of_ble_eq_true rfl) (Nat.zero_le _) (Nat.zero_le _) (Nat.le_of_ble_eq_true rfl) rfl ?_
    refine U_ifeq (tgt := 20) (n := 16) C dX4_place_13 (by decide) rfl (fun c5 => ?_) (fun c5 => ?_)
    · replace hf := (if_pos c5).symm.trans hf
      refine U_iconst (n := 21) (0 : Int32) C dX4_place_20 kiconst_0 rfl ?_
      obtain ⟨hr1, hr2⟩ := Prod.mk.inj (Option.some.inj hf)
      subst hr1; subst hr2
      subst hQ
      exact U_zret C dX4_place_21 (Or.inl rfl) (Nat.le_refl 0) (Nat.le_refl 0)
    · replace hf := (if_neg c5).symm.trans hf
      refine U_iconst (n := 17) (1 : Int32) C dX4_place_16 kiconst_1 rfl ?_
      refine U_goto (n := 0) (tgt := 21) C dX4_place_17 (by decide) ?_
      obtain ⟨hr1, hr2⟩ := Prod.mk.inj (Option.some.inj hf)
      subst hr1; subst hr2
      subst hQ
      exact U_zret C dX4_place_21 (Or.inr rfl) (Nat.le_refl 0) (Nat.le_refl 0)
  · replace hf := (if_neg c2).symm.trans hf
    refine U_iload_n (n := 23) 2 C dX4_place_22 rfl rfl ?_
    refine U_bipush (n := 25) (-50 : Int32) C dX4_place_23 kbipush_m50 rfl ?_
    refine U_bipush (n := 27) (50 : Int32) C dX4_place_25 kbipush_50 rfl ?_
    obtain ⟨v6, ev6, hf⟩ := bsome hf
    refine cv_RX4_91 (n := 30) C dX4_place_27 (av := [.int a2, .int (-50 : Int32), .int (50 : Int32)]) rfl (M_X4_in ev6) (Nat.le_of_ble_eq_true rfl) (Nat.zero_le _) (Nat.zero_le _) (Nat.le_of_ble_eq_true rfl) rfl ?_
    refine U_ifeq (tgt := 44) (n := 33) C dX4_place_30 (by decide) rfl (fun c7 => ?_) (fun c7 => ?_)
    · replace hf := (if_pos c7).symm.trans hf
      refine U_aload_n (n := 45) 0 C dX4_place_44 rfl rfl rfl ?_
      refine U_iconst (n := 46) (2 : Int32) C dX4_place_45 kiconst_2 rfl ?_
      obtain ⟨v8, h9, ev8, hf⟩ := bsome2 hf
      refine cv_RX4_113 (n := 49) C dX4_place_46 (av := [.int (2 : Int32)]) rfl (rc_X4_fails ev8) (M_X4_fails ev8) (Nat.le_of_ble_eq_true rfl) (Nat.zero_le _) (Nat.zero_le _) (Nat.le_of_ble_eq_true rfl) rfl ?_
      refine U_ifeq (tgt := 56) (n := 52) C dX4_place_49 (by decide) rfl (fun c10 => ?_) (fun c10 => ?_)
      · replace hf := (if_pos c10).symm.trans hf
        refine U_iconst (n := 57) (0 : Int32) C dX4_place_56 kiconst_0 rfl ?_
        obtain ⟨hr1, hr2⟩ := Prod.mk.inj (Option.some.inj hf)
        subst hr1; subst hr2
        subst hQ
        exact U_zret C dX4_place_57 (Or.inl rfl) (Nat.le_refl 0) (Nat.le_refl 0)
      · replace hf := (if_neg c10).symm.trans hf
        refine U_iconst (n := 53) (1 : Int32) C dX4_place_52 kiconst_1 rfl ?_
        refine U_goto (n := 0) (tgt := 57) C dX4_place_53 (by decide) ?_
        obtain ⟨hr1, hr2⟩ := Prod.mk.inj (Option.some.inj hf)
        subst hr1; subst hr2
        subst hQ
        exact U_zret C dX4_place_57 (Or.inr rfl) (Nat.le_refl 0) (Nat.le_refl 0)
    · replace hf := (if_neg c7).symm.trans hf
      refine U_iload_n (n := 34) 3 C dX4_place_33 rfl rfl ?_
      refine U_bipush (n := 36) (-50 : Int32) C dX4_place_34 kbipush_m50 rfl ?_
      refine U_bipush (n := 38) (50 : Int32) C dX4_place_36 kbipush_50 rfl ?_
      obtain ⟨v11, ev11, hf⟩ := bsome hf
      refine cv_RX4_91 (n := 41) C dX4_place_38 (av := [.int a3, .int (-50 : Int32), .int (50 : Int32)]) rfl (M_X4_in ev11) (Nat.le_of_ble_eq_true rfl) (Nat.zero_le _) (Nat.zero_le _) (Nat.le_of_ble_eq_true rfl) rfl ?_
      refine U_ifne (tgt := 58) (n := 44) C dX4_place_41 (by decide) rfl (fun c12 => ?_) (fun c12 => ?_)
      · replace hf := (if_pos c12).symm.trans hf
        refine U_aload_n (n := 45) 0 C dX4_place_44 rfl rfl rfl ?_
        refine U_iconst (n := 46) (2 : Int32) C dX4_place_45 kiconst_2 rfl ?_
        obtain ⟨v13, h14, ev13, hf⟩ := bsome2 hf
        refine cv_RX4_113 (n := 49) C dX4_place_46 (av := [.int (2 : Int32)]) rfl (rc_X4_fails ev13) (M_X4_fails ev13) (Nat.le_of_ble_eq_true rfl) (Nat.zero_le _) (Nat.zero_le _) (Nat.le_of_ble_eq_true rfl) rfl ?_
        refine U_ifeq (tgt := 56) (n := 52) C dX4_place_49 (by decide) rfl (fun c15 => ?_) (fun c15 => ?_)
        · replace hf := (if_pos c15).symm.trans hf
          refine U_iconst (n := 57) (0 : Int32) C dX4_place_56 kiconst_0 rfl ?_
          obtain ⟨hr1, hr2⟩ := Prod.mk.inj (Option.some.inj hf)
          subst hr1; subst hr2
          subst hQ
          exact U_zret C dX4_place_57 (Or.inl rfl) (Nat.le_refl 0) (Nat.le_refl 0)
        · replace hf := (if_neg c15).symm.trans hf
          refine U_iconst (n := 53) (1 : Int32) C dX4_place_52 kiconst_1 rfl ?_
          refine U_goto (n := 0) (tgt := 57) C dX4_place_53 (by decide) ?_
          obtain ⟨hr1, hr2⟩ := Prod.mk.inj (Option.some.inj hf)
          subst hr1; subst hr2
          subst hQ
          exact U_zret C dX4_place_57 (Or.inr rfl) (Nat.le_refl 0) (Nat.le_refl 0)
      · replace hf := (if_neg c12).symm.trans hf
        refine U_aload_n (n := 59) 0 C dX4_place_58 rfl rfl rfl ?_
        obtain ⟨h17, ev16, hf⟩ := bsome hf
        refine cv_RX4_116 (n := 62) C dX4_place_59 (av := []) rfl (rc_X4_hold ev16) (M_X4_hold ev16) (Nat.le_of_ble_eq_true rfl) (Nat.zero_le _) (Nat.zero_le _) (Nat.le_of_ble_eq_true rfl) rfl ?_
        refine U_aload_n (n := 63) 0 C dX4_place_62 rfl rfl rfl ?_
        refine U_iload_n (n := 64) 1 C dX4_place_63 rfl rfl ?_
        obtain ⟨v18, ev18, hf⟩ := bsome hf
        refine cv_RX4_211 (n := 67) C dX4_place_64 (av := [.int a1]) rfl (rc_X4_isPlaced ev18) (M_X4_isPlaced ev18) (Nat.le_of_ble_eq_true rfl) (Nat.zero_le _) (Nat.zero_le _) (Nat.le_of_ble_eq_true rfl) rfl ?_
        refine U_istore (n := 69) (lv2 := [(4, .int v18), (0, .ref o), (1, .int a1), (2, .int a2), (3, .int a3)]) C dX4_place_67 (by decide) rfl rfl ?_
        refine U_aload_n (n := 70) 1 C dX4_place_69 rfl rfl rfl ?_
        refine gf_RX4_7 (n := 73) C dX4_place_70 hf rfl (fun v19 hf => ?_)
        refine U_sipush (n := 76) (227 : Int32) C dX4_place_73 ksipush_227 rfl ?_
        refine U_iconst (n := 77) (2 : Int32) C dX4_place_76 kiconst_2 rfl ?_
        refine U_iload_n (n := 78) 2 C dX4_place_77 rfl rfl ?_
        refine U_imul (n := 79) C dX4_place_78 rfl ?_
        refine U_iadd (n := 80) C dX4_place_79 rfl ?_
        refine U_iload_n (n := 81) 3 C dX4_place_80 rfl rfl ?_
        refine U_iast (n := 82) C dX4_place_81 hf rfl (fun h20 hf => ?_)
        refine U_aload_n (n := 83) 1 C dX4_place_82 rfl rfl rfl ?_
        refine gf_RX4_7 (n := 86) C dX4_place_83 hf rfl (fun v21 hf => ?_)
        refine U_sipush (n := 89) (227 : Int32) C dX4_place_86 ksipush_227 rfl ?_
        refine U_iconst (n := 90) (2 : Int32) C dX4_place_89 kiconst_2 rfl ?_
        refine U_iload_n (n := 91) 2 C dX4_place_90 rfl rfl ?_
        refine U_imul (n := 92) C dX4_place_91 rfl ?_
        refine U_iadd (n := 93) C dX4_place_92 rfl ?_
        refine U_iconst (n := 94) (1 : Int32) C dX4_place_93 kiconst_1 rfl ?_
        refine U_iadd (n := 95) C dX4_place_94 rfl ?_
        refine U_iload_n (n := 96) 4 C dX4_place_95 rfl rfl ?_
        refine U_iast (n := 97) C dX4_place_96 hf rfl (fun h22 hf => ?_)
        refine U_aload_n (n := 98) 1 C dX4_place_97 rfl rfl rfl ?_
        refine U_iload (n := 100) 0 C dX4_place_98 rfl rfl ?_
        refine U_join1 (fun v24 => U g Γ 5 Q 0 0 108 [] [.int v24, .ref o] h22) hf (fun v24 hf => ?_) (fun v24 hf J26 => ?_)
        · skip
          obtain ⟨v28, h29, ev28, hf⟩ := bsome2 hf
          refine cv_RX4_119 (n := 111) C dX4_place_108 (av := [.int v24]) rfl (rc_X4_ends ev28) (M_X4_ends ev28) (Nat.le_of_ble_eq_true rfl) (Nat.zero_le _) (Nat.zero_le _) (Nat.le_of_ble_eq_true rfl) rfl ?_
          refine U_iconst (n := 112) (1 : Int32) C dX4_place_111 kiconst_1 rfl ?_
          refine U_icne (tgt := 119) (n := 115) C dX4_place_112 (by decide) rfl (fun c30 => ?_) (fun c30 => ?_)
          · replace hf := (if_pos c30).symm.trans hf
            refine U_iconst (n := 116) (1 : Int32) C dX4_place_115 kiconst_1 rfl ?_
            refine U_goto (n := 0) (tgt := 120) C dX4_place_116 (by decide) ?_
            obtain ⟨hr1, hr2⟩ := Prod.mk.inj (Option.some.inj hf)
            subst hr1; subst hr2
            subst hQ
            exact U_zret C dX4_place_120 (Or.inr rfl) (Nat.le_refl 0) (Nat.le_refl 0)
          · replace hf := (if_neg c30).symm.trans hf
            refine U_iconst (n := 120) (0 : Int32) C dX4_place_119 kiconst_0 rfl ?_
            obtain ⟨hr1, hr2⟩ := Prod.mk.inj (Option.some.inj hf)
            subst hr1; subst hr2
            subst hQ
            exact U_zret C dX4_place_120 (Or.inl rfl) (Nat.le_refl 0) (Nat.le_refl 0)
        · skip
          refine U_ifeq (tgt := 107) (n := 103) C dX4_place_100 (by decide) rfl (fun c23 => ?_) (fun c23 => ?_)
          · replace hf := (if_pos c23).symm.trans hf
            refine U_iconst (n := 108) (0 : Int32) C dX4_place_107 kiconst_0 rfl ?_
            have hr := Option.some.inj hf
            subst hr
            exact U_lv [] rfl J26
          · replace hf := (if_neg c23).symm.trans hf
            refine U_iconst (n := 104) (1 : Int32) C dX4_place_103 kiconst_1 rfl ?_
            refine U_goto (n := 0) (tgt := 108) C dX4_place_104 (by decide) ?_
            have hr := Option.some.inj hf
            subst hr
            exact U_lv [] rfl J26
def f_X4_coordinate (o : Nat) (a1 : Int32) (a2 : Int32) (h : Hp) : Option (Int32 × Hp) :=
  (rc 4 h o).bind fun _ =>
  (f_X4_isPoint o a1 h).bind fun v1 =>
  if v1 = 0 then (
    bind2 (f_X4_fails o (1 : Int32) h) fun v3 h4 =>
    some ((v3, h4))
  ) else (
    (f_X4_in a2 (0 : Int32) (1 : Int32)).bind fun v5 =>
    if v5 = 0 then (
      bind2 (f_X4_fails o (2 : Int32) h) fun v7 h8 =>
      some ((v7, h8))
    ) else (
      (fR 4 0 h o).bind fun v9 =>
      (aI h v9 (((227 : Int32) + ((2 : Int32) * a1)) + a2)).bind fun v10 =>
      bind2 (f_X4_tells o v10 h) fun v11 h12 =>
      some ((v11, h12))
    )
  )
theorem rc_X4_coordinate {o : Nat} {a1 : Int32} {a2 : Int32} {h : Hp} {z} (hf : f_X4_coordinate o a1 a2 h = some z) : rc 4 h o = some () := by
  unfold f_X4_coordinate at hf
  exact (bsome hf).choose_spec.1
set_option maxHeartbeats 2000000 in
set_option maxRecDepth 20000 in
theorem M_X4_coordinate {g : GT} {o : Nat} {a1 : Int32} {a2 : Int32} {h : Hp} {r : Int32} {h2 : Hp} (hf : f_X4_coordinate o a1 a2 h = some (r, h2)) : CM g yX4_coordinate cX4_coordinate 3 (some .int) 8 0 0 [.ref o, .int a1, .int a2] h (.inr (some (.int r))) h2 := by
  refine CM_of rfl (fun _ => Nat.le_of_ble_eq_true rfl) (fun Γ C hn0 => ?_)
  have C : Cx g Γ cX4_coordinate RX4 "coordinate" 3 (some .int) 8 0 0 := C
  generalize hQ : Qe g Γ (.inr (some (.int r))) h2 0 0 = Q
  show U g Γ 3 Q 0 0 0 [(0, .ref o), (1, .int a1), (2, .int a2)] [] h
  unfold f_X4_coordinate at hf
  replace hf := (bsome hf).choose_spec.2
  refine U_aload_n (n := 1) 0 C dX4_coordinate_0 rfl rfl rfl ?_
  refine U_iload_n (n := 2) 1 C dX4_coordinate_1 rfl rfl ?_
  obtain ⟨v1, ev1, hf⟩ := bsome hf
  refine cv_RX4_95 (n := 5) C dX4_coordinate_2 (av := [.int a1]) rfl (rc_X4_isPoint ev1) (M_X4_isPoint ev1) (Nat.le_of_ble_eq_true rfl) (Nat.zero_le _) (Nat.zero_le _) (Nat.le_of_ble_eq_true rfl) rfl ?_
  refine U_ifne (tgt := 14) (n := 8) C dX4_coordinate_5 (by decide) rfl (fun c2 => ?_) (fun c2 => ?_)
  · replace hf := (if_pos c2).symm.trans hf
    refine U_aload_n (n := 9) 0 C dX4_coordinate_8 rfl rfl rfl ?_
    refine U_iconst (n := 10) (1 : Int32) C dX4_coordinate_9 kiconst_1 rfl ?_
    obtain ⟨v3, h4, ev3, hf⟩ := bsome2 hf
    refine cv_RX4_113 (n := 13) C dX4_coordinate_10 (av := [.int (1 : Int32)]) rfl (rc_X4_fails ev3) (M_X4_fails ev3) (Nat.le_of_ble_eq_true rfl) (Nat.zero_le _) (Nat.zero_le _) (Nat.le_of_ble_eq_true rfl) rfl ?_
    obtain ⟨hr1, hr2⟩ := Prod.mk.inj (Option.some.inj hf)
    subst hr1; subst hr2
    subst hQ
    exact U_iret C dX4_coordinate_13 (Nat.le_refl 0) (Nat.le_refl 0)
  · replace hf := (if_neg c2).symm.trans hf
    refine U_iload_n (n := 15) 2 C dX4_coordinate_14 rfl rfl ?_
    refine U_iconst (n := 16) (0 : Int32) C dX4_coordinate_15 kiconst_0 rfl ?_
    refine U_iconst (n := 17) (1 : Int32) C dX4_coordinate_16 kiconst_1 rfl ?_
    obtain ⟨v5, ev5, hf⟩ := bsome hf
    refine cv_RX4_91 (n := 20) C dX4_coordinate_17 (av := [.int a2, .int (0 : Int32), .int (1 : Int32)]) rfl (M_X4_in ev5) (Nat.le_of_ble_eq_true rfl) (Nat.zero_le _) (Nat.zero_le _) (Nat.le_of_ble_eq_true rfl) rfl ?_
    refine U_ifeq (tgt := 44) (n := 23) C dX4_coordinate_20 (by decide) rfl (fun c6 => ?_) (fun c6 => ?_)
    · replace hf := (if_pos c6).symm.trans hf
      refine U_aload_n (n := 45) 0 C dX4_coordinate_44 rfl rfl rfl ?_
      refine U_iconst (n := 46) (2 : Int32) C dX4_coordinate_45 kiconst_2 rfl ?_
      obtain ⟨v7, h8, ev7, hf⟩ := bsome2 hf
      refine cv_RX4_113 (n := 49) C dX4_coordinate_46 (av := [.int (2 : Int32)]) rfl (rc_X4_fails ev7) (M_X4_fails ev7) (Nat.le_of_ble_eq_true rfl) (Nat.zero_le _) (Nat.zero_le _) (Nat.le_of_ble_eq_true rfl) rfl ?_
      obtain ⟨hr1, hr2⟩ := Prod.mk.inj (Option.some.inj hf)
      subst hr1; subst hr2
      subst hQ
      exact U_iret C dX4_coordinate_49 (Nat.le_refl 0) (Nat.le_refl 0)
    · replace hf := (if_neg c6).symm.trans hf
      refine U_aload_n (n := 24) 0 C dX4_coordinate_23 rfl rfl rfl ?_
      refine U_aload_n (n := 25) 0 C dX4_coordinate_24 rfl rfl rfl ?_
      refine gf_RX4_7 (n := 28) C dX4_coordinate_25 hf rfl (fun v9 hf => ?_)
      refine U_sipush (n := 31) (227 : Int32) C dX4_coordinate_28 ksipush_227 rfl ?_
      refine U_iconst (n := 32) (2 : Int32) C dX4_coordinate_31 kiconst_2 rfl ?_
      refine U_iload_n (n := 33) 1 C dX4_coordinate_32 rfl rfl ?_
      refine U_imul (n := 34) C dX4_coordinate_33 rfl ?_
      refine U_iadd (n := 35) C dX4_coordinate_34 rfl ?_
      refine U_iload_n (n := 36) 2 C dX4_coordinate_35 rfl rfl ?_
      refine U_iadd (n := 37) C dX4_coordinate_36 rfl ?_
      refine U_iald (n := 38) C dX4_coordinate_37 hf rfl (fun v10 hf => ?_)
      obtain ⟨v11, h12, ev11, hf⟩ := bsome2 hf
      refine cv_RX4_67 (n := 41) C dX4_coordinate_38 (av := [.int v10]) rfl (rc_X4_tells ev11) (M_X4_tells ev11) (Nat.le_of_ble_eq_true rfl) (Nat.zero_le _) (Nat.zero_le _) (Nat.le_of_ble_eq_true rfl) rfl ?_
      refine U_goto (n := 0) (tgt := 49) C dX4_coordinate_41 (by decide) ?_
      obtain ⟨hr1, hr2⟩ := Prod.mk.inj (Option.some.inj hf)
      subst hr1; subst hr2
      subst hQ
      exact U_iret C dX4_coordinate_49 (Nat.le_refl 0) (Nat.le_refl 0)
def f_X4_isSeen (o : Nat) (a1 : Int32) (h : Hp) : Option Int32 :=
  (rc 4 h o).bind fun _ =>
  (fR 4 7 h o).bind fun v1 =>
  (aI h v1 ((3 : Int32) * a1)).bind fun v2 =>
  (f_X4_isPlaced o v2 h).bind fun v3 =>
  if v3 = 0 then (
    some ((0 : Int32))
  ) else (
    (fR 4 7 h o).bind fun v5 =>
    (aI h v5 (((3 : Int32) * a1) + (1 : Int32))).bind fun v6 =>
    (f_X4_isPlaced o v6 h).bind fun v7 =>
    if v7 = 0 then (
      some ((0 : Int32))
    ) else (
      (fR 4 7 h o).bind fun v9 =>
      (aI h v9 (((3 : Int32) * a1) + (2 : Int32))).bind fun v10 =>
      (f_X4_isPlaced o v10 h).bind fun v11 =>
      if v11 = 0 then (
        some ((0 : Int32))
      ) else (
        some ((1 : Int32))
      )
    )
  )
theorem rc_X4_isSeen {o : Nat} {a1 : Int32} {h : Hp} {z} (hf : f_X4_isSeen o a1 h = some z) : rc 4 h o = some () := by
  unfold f_X4_isSeen at hf
  exact (bsome hf).choose_spec.1
set_option maxHeartbeats 2000000 in
set_option maxRecDepth 20000 in
theorem M_X4_isSeen {g : GT} {o : Nat} {a1 : Int32} {h : Hp} {r : Int32} (hf : f_X4_isSeen o a1 h = some r) : CM g yX4_isSeen cX4_isSeen 2 (some .boolean) 7 0 0 [.ref o, .int a1] h (.inr (some (.int r))) h := by
  refine CM_of rfl (fun _ => Nat.le_of_ble_eq_true rfl) (fun Γ C hn0 => ?_)
  have C : Cx g Γ cX4_isSeen RX4 "isSeen" 2 (some .boolean) 7 0 0 := C
  generalize hQ : Qe g Γ (.inr (some (.int r))) h 0 0 = Q
  show U g Γ 2 Q 0 0 0 [(0, .ref o), (1, .int a1)] [] h
  unfold f_X4_isSeen at hf
  replace hf := (bsome hf).choose_spec.2
  refine U_aload_n (n := 1) 0 C dX4_isSeen_0 rfl rfl rfl ?_
  refine U_aload_n (n := 2) 0 C dX4_isSeen_1 rfl rfl rfl ?_
  refine gf_RX4_22 (n := 5) C dX4_isSeen_2 hf rfl (fun v1 hf => ?_)
  refine U_iconst (n := 6) (3 : Int32) C dX4_isSeen_5 kiconst_3 rfl ?_
  refine U_iload_n (n := 7) 1 C dX4_isSeen_6 rfl rfl ?_
  refine U_imul (n := 8) C dX4_isSeen_7 rfl ?_
  refine U_iald (n := 9) C dX4_isSeen_8 hf rfl (fun v2 hf => ?_)
  obtain ⟨v3, ev3, hf⟩ := bsome hf
  refine cv_RX4_211 (n := 12) C dX4_isSeen_9 (av := [.int v2]) rfl (rc_X4_isPlaced ev3) (M_X4_isPlaced ev3) (Nat.le_of_ble_eq_true rfl) (Nat.zero_le _) (Nat.zero_le _) (Nat.le_of_ble_eq_true rfl) rfl ?_
  refine U_ifeq (tgt := 53) (n := 15) C dX4_isSeen_12 (by decide) rfl (fun c4 => ?_) (fun c4 => ?_)
  · replace hf := (if_pos c4).symm.trans hf
    refine U_iconst (n := 54) (0 : Int32) C dX4_isSeen_53 kiconst_0 rfl ?_
    have hr := (Option.some.inj hf)
    subst hr
    subst hQ
    exact U_zret C dX4_isSeen_54 (Or.inl rfl) (Nat.le_refl 0) (Nat.le_refl 0)
  · replace hf := (if_neg c4).symm.trans hf
    refine U_aload_n (n := 16) 0 C dX4_isSeen_15 rfl rfl rfl ?_
    refine U_aload_n (n := 17) 0 C dX4_isSeen_16 rfl rfl rfl ?_
    refine gf_RX4_22 (n := 20) C dX4_isSeen_17 hf rfl (fun v5 hf => ?_)
    refine U_iconst (n := 21) (3 : Int32) C dX4_isSeen_20 kiconst_3 rfl ?_
    refine U_iload_n (n := 22) 1 C dX4_isSeen_21 rfl rfl ?_
    refine U_imul (n := 23) C dX4_isSeen_22 rfl ?_
    refine U_iconst (n := 24) (1 : Int32) C dX4_isSeen_23 kiconst_1 rfl ?_
    refine U_iadd (n := 25) C dX4_isSeen_24 rfl ?_
    refine U_iald (n := 26) C dX4_isSeen_25 hf rfl (fun v6 hf => ?_)
    obtain ⟨v7, ev7, hf⟩ := bsome hf
    refine cv_RX4_211 (n := 29) C dX4_isSeen_26 (av := [.int v6]) rfl (rc_X4_isPlaced ev7) (M_X4_isPlaced ev7) (Nat.le_of_ble_eq_true rfl) (Nat.zero_le _) (Nat.zero_le _) (Nat.le_of_ble_eq_true rfl) rfl ?_
    refine U_ifeq (tgt := 53) (n := 32) C dX4_isSeen_29 (by decide) rfl (fun c8 => ?_) (fun c8 => ?_)
    · replace hf := (if_pos c8).symm.trans hf
      refine U_iconst (n := 54) (0 : Int32) C dX4_isSeen_53 kiconst_0 rfl ?_
      have hr := (Option.some.inj hf)
      subst hr
      subst hQ
      exact U_zret C dX4_isSeen_54 (Or.inl rfl) (Nat.le_refl 0) (Nat.le_refl 0)
    · replace hf := (if_neg c8).symm.trans hf
      refine U_aload_n (n := 33) 0 C dX4_isSeen_32 rfl rfl rfl ?_
      refine U_aload_n (n := 34) 0 C dX4_isSeen_33 rfl rfl rfl ?_
      refine gf_RX4_22 (n := 37) C dX4_isSeen_34 hf rfl (fun v9 hf => ?_)
      refine U_iconst (n := 38) (3 : Int32) C dX4_isSeen_37 kiconst_3 rfl ?_
      refine U_iload_n (n := 39) 1 C dX4_isSeen_38 rfl rfl ?_
      refine U_imul (n := 40) C dX4_isSeen_39 rfl ?_
      refine U_iconst (n := 41) (2 : Int32) C dX4_isSeen_40 kiconst_2 rfl ?_
      refine U_iadd (n := 42) C dX4_isSeen_41 rfl ?_
      refine U_iald (n := 43) C dX4_isSeen_42 hf rfl (fun v10 hf => ?_)
      obtain ⟨v11, ev11, hf⟩ := bsome hf
      refine cv_RX4_211 (n := 46) C dX4_isSeen_43 (av := [.int v10]) rfl (rc_X4_isPlaced ev11) (M_X4_isPlaced ev11) (Nat.le_of_ble_eq_true rfl) (Nat.zero_le _) (Nat.zero_le _) (Nat.le_of_ble_eq_true rfl) rfl ?_
      refine U_ifeq (tgt := 53) (n := 49) C dX4_isSeen_46 (by decide) rfl (fun c12 => ?_) (fun c12 => ?_)
      · replace hf := (if_pos c12).symm.trans hf
        refine U_iconst (n := 54) (0 : Int32) C dX4_isSeen_53 kiconst_0 rfl ?_
        have hr := (Option.some.inj hf)
        subst hr
        subst hQ
        exact U_zret C dX4_isSeen_54 (Or.inl rfl) (Nat.le_refl 0) (Nat.le_refl 0)
      · replace hf := (if_neg c12).symm.trans hf
        refine U_iconst (n := 50) (1 : Int32) C dX4_isSeen_49 kiconst_1 rfl ?_
        refine U_goto (n := 0) (tgt := 54) C dX4_isSeen_50 (by decide) ?_
        have hr := (Option.some.inj hf)
        subst hr
        subst hQ
        exact U_zret C dX4_isSeen_54 (Or.inr rfl) (Nat.le_refl 0) (Nat.le_refl 0)
def f_X4_apart (o : Nat) (a1 : Int32) (a2 : Int32) (a3 : Int32) (h : Hp) : Option Int32 :=
  (rc 4 h o).bind fun _ =>
  (fR 4 0 h o).bind fun v1 =>
  (aI h v1 (((227 : Int32) + ((2 : Int32) * a2)) + a3)).bind fun v2 =>
  (fR 4 0 h o).bind fun v3 =>
  (aI h v3 (((227 : Int32) + ((2 : Int32) * a1)) + a3)).bind fun v4 =>
  some ((v2 - v4))
theorem rc_X4_apart {o : Nat} {a1 : Int32} {a2 : Int32} {a3 : Int32} {h : Hp} {z} (hf : f_X4_apart o a1 a2 a3 h = some z) : rc 4 h o = some () := by
  unfold f_X4_apart at hf
  exact (bsome hf).choose_spec.1
set_option maxHeartbeats 2000000 in
set_option maxRecDepth 20000 in
theorem M_X4_apart {g : GT} {o : Nat} {a1 : Int32} {a2 : Int32} {a3 : Int32} {h : Hp} {r : Int32} (hf : f_X4_apart o a1 a2 a3 h = some r) : CM g yX4_apart cX4_apart 4 (some .int) 6 0 0 [.ref o, .int a1, .int a2, .int a3] h (.inr (some (.int r))) h := by
  refine CM_of rfl (fun _ => Nat.le_of_ble_eq_true rfl) (fun Γ C hn0 => ?_)
  have C : Cx g Γ cX4_apart RX4 "apart" 4 (some .int) 6 0 0 := C
  generalize hQ : Qe g Γ (.inr (some (.int r))) h 0 0 = Q
  show U g Γ 4 Q 0 0 0 [(0, .ref o), (1, .int a1), (2, .int a2), (3, .int a3)] [] h
  unfold f_X4_apart at hf
  replace hf := (bsome hf).choose_spec.2
  refine U_aload_n (n := 1) 0 C dX4_apart_0 rfl rfl rfl ?_
  refine gf_RX4_7 (n := 4) C dX4_apart_1 hf rfl (fun v1 hf => ?_)
  refine U_sipush (n := 7) (227 : Int32) C dX4_apart_4 ksipush_227 rfl ?_
  refine U_iconst (n := 8) (2 : Int32) C dX4_apart_7 kiconst_2 rfl ?_
  refine U_iload_n (n := 9) 2 C dX4_apart_8 rfl rfl ?_
  refine U_imul (n := 10) C dX4_apart_9 rfl ?_
  refine U_iadd (n := 11) C dX4_apart_10 rfl ?_
  refine U_iload_n (n := 12) 3 C dX4_apart_11 rfl rfl ?_
  refine U_iadd (n := 13) C dX4_apart_12 rfl ?_
  refine U_iald (n := 14) C dX4_apart_13 hf rfl (fun v2 hf => ?_)
  refine U_aload_n (n := 15) 0 C dX4_apart_14 rfl rfl rfl ?_
  refine gf_RX4_7 (n := 18) C dX4_apart_15 hf rfl (fun v3 hf => ?_)
  refine U_sipush (n := 21) (227 : Int32) C dX4_apart_18 ksipush_227 rfl ?_
  refine U_iconst (n := 22) (2 : Int32) C dX4_apart_21 kiconst_2 rfl ?_
  refine U_iload_n (n := 23) 1 C dX4_apart_22 rfl rfl ?_
  refine U_imul (n := 24) C dX4_apart_23 rfl ?_
  refine U_iadd (n := 25) C dX4_apart_24 rfl ?_
  refine U_iload_n (n := 26) 3 C dX4_apart_25 rfl rfl ?_
  refine U_iadd (n := 27) C dX4_apart_26 rfl ?_
  refine U_iald (n := 28) C dX4_apart_27 hf rfl (fun v4 hf => ?_)
  refine U_isub (n := 29) C dX4_apart_28 rfl ?_
  have hr := (Option.some.inj hf)
  subst hr
  subst hQ
  exact U_iret C dX4_apart_29 (Nat.le_refl 0) (Nat.le_refl 0)
def f_X4_signSeen (o : Nat) (a1 : Int32) (h : Hp) : Option Int32 :=
  (rc 4 h o).bind fun _ =>
  (fR 4 7 h o).bind fun v1 =>
  (aI h v1 ((3 : Int32) * a1)).bind fun v2 =>
  (fR 4 7 h o).bind fun v3 =>
  (aI h v3 (((3 : Int32) * a1) + (1 : Int32))).bind fun v4 =>
  (fR 4 7 h o).bind fun v5 =>
  (aI h v5 (((3 : Int32) * a1) + (2 : Int32))).bind fun v6 =>
  (f_X4_apart o v2 v4 (0 : Int32) h).bind fun v7 =>
  (f_X4_apart o v2 v6 (1 : Int32) h).bind fun v8 =>
  (f_X4_apart o v2 v4 (1 : Int32) h).bind fun v9 =>
  (f_X4_apart o v2 v6 (0 : Int32) h).bind fun v10 =>
  if ((v7 * v8) - (v9 * v10)) ≤ 0 then (
    if 0 ≤ ((v7 * v8) - (v9 * v10)) then (
      some ((0 : Int32))
    ) else (
      some ((-1 : Int32))
    )
  ) else (
    some ((1 : Int32))
  )
theorem rc_X4_signSeen {o : Nat} {a1 : Int32} {h : Hp} {z} (hf : f_X4_signSeen o a1 h = some z) : rc 4 h o = some () := by
  unfold f_X4_signSeen at hf
  exact (bsome hf).choose_spec.1
set_option maxHeartbeats 2000000 in
set_option maxRecDepth 20000 in
theorem M_X4_signSeen {g : GT} {o : Nat} {a1 : Int32} {h : Hp} {r : Int32} (hf : f_X4_signSeen o a1 h = some r) : CM g yX4_signSeen cX4_signSeen 6 (some .int) 7 0 0 [.ref o, .int a1] h (.inr (some (.int r))) h := by
  refine CM_of rfl (fun _ => Nat.le_of_ble_eq_true rfl) (fun Γ C hn0 => ?_)
  have C : Cx g Γ cX4_signSeen RX4 "signSeen" 6 (some .int) 7 0 0 := C
  generalize hQ : Qe g Γ (.inr (some (.int r))) h 0 0 = Q
  show U g Γ 6 Q 0 0 0 [(0, .ref o), (1, .int a1)] [] h
  unfold f_X4_signSeen at hf
  replace hf := (bsome hf).choose_spec.2
  refine U_aload_n (n := 1) 0 C dX4_signSeen_0 rfl rfl rfl ?_
  refine gf_RX4_22 (n := 4) C dX4_signSeen_1 hf rfl (fun v1 hf => ?_)
  refine U_iconst (n := 5) (3 : Int32) C dX4_signSeen_4 kiconst_3 rfl ?_
  refine U_iload_n (n := 6) 1 C dX4_signSeen_5 rfl rfl ?_
  refine U_imul (n := 7) C dX4_signSeen_6 rfl ?_
  refine U_iald (n := 8) C dX4_signSeen_7 hf rfl (fun v2 hf => ?_)
  refine U_istore_n (n := 9) (lv2 := [(2, .int v2), (0, .ref o), (1, .int a1)]) C dX4_signSeen_8 (by decide) rfl rfl ?_
  refine U_aload_n (n := 10) 1 C dX4_signSeen_9 rfl rfl rfl ?_
  refine gf_RX4_22 (n := 13) C dX4_signSeen_10 hf rfl (fun v3 hf => ?_)
  refine U_iconst (n := 14) (3 : Int32) C dX4_signSeen_13 kiconst_3 rfl ?_
  refine U_iload_n (n := 15) 2 C dX4_signSeen_14 rfl rfl ?_
  refine U_imul (n := 16) C dX4_signSeen_15 rfl ?_
  refine U_iconst (n := 17) (1 : Int32) C dX4_signSeen_16 kiconst_1 rfl ?_
  refine U_iadd (n := 18) C dX4_signSeen_17 rfl ?_
  refine U_iald (n := 19) C dX4_signSeen_18 hf rfl (fun v4 hf => ?_)
  refine U_istore_n (n := 20) (lv2 := [(3, .int v4), (2, .int v2), (0, .ref o), (1, .int a1)]) C dX4_signSeen_19 (by decide) rfl rfl ?_
  refine U_aload_n (n := 21) 2 C dX4_signSeen_20 rfl rfl rfl ?_
  refine gf_RX4_22 (n := 24) C dX4_signSeen_21 hf rfl (fun v5 hf => ?_)
  refine U_iconst (n := 25) (3 : Int32) C dX4_signSeen_24 kiconst_3 rfl ?_
  refine U_iload_n (n := 26) 3 C dX4_signSeen_25 rfl rfl ?_
  refine U_imul (n := 27) C dX4_signSeen_26 rfl ?_
  refine U_iconst (n := 28) (2 : Int32) C dX4_signSeen_27 kiconst_2 rfl ?_
  refine U_iadd (n := 29) C dX4_signSeen_28 rfl ?_
  refine U_iald (n := 30) C dX4_signSeen_29 hf rfl (fun v6 hf => ?_)
  refine U_istore (n := 32) (lv2 := [(4, .int v6), (3, .int v4), (2, .int v2), (0, .ref o), (1, .int a1)]) C dX4_signSeen_30 (by decide) rfl rfl ?_
  refine U_aload_n (n := 33) 3 C dX4_signSeen_32 rfl rfl rfl ?_
  refine U_iload_n (n := 34) 2 C dX4_signSeen_33 rfl rfl ?_
  refine U_iload_n (n := 35) 1 C dX4_signSeen_34 rfl rfl ?_
  refine U_iconst (n := 36) (0 : Int32) C dX4_signSeen_35 kiconst_0 rfl ?_
  obtain ⟨v7, ev7, hf⟩ := bsome hf
  refine cv_RX4_214 (n := 39) C dX4_signSeen_36 (av := [.int v2, .int v4, .int (0 : Int32)]) rfl (rc_X4_apart ev7) (M_X4_apart ev7) (Nat.le_of_ble_eq_true rfl) (Nat.zero_le _) (Nat.zero_le _) (Nat.le_of_ble_eq_true rfl) rfl ?_
  refine U_aload_n (n := 40) 3 C dX4_signSeen_39 rfl rfl rfl ?_
  refine U_iload_n (n := 41) 2 C dX4_signSeen_40 rfl rfl ?_
  refine U_iload (n := 43) 0 C dX4_signSeen_41 rfl rfl ?_
  refine U_iconst (n := 44) (1 : Int32) C dX4_signSeen_43 kiconst_1 rfl ?_
  obtain ⟨v8, ev8, hf⟩ := bsome hf
  refine cv_RX4_214 (n := 47) C dX4_signSeen_44 (av := [.int v2, .int v6, .int (1 : Int32)]) rfl (rc_X4_apart ev8) (M_X4_apart ev8) (Nat.le_of_ble_eq_true rfl) (Nat.zero_le _) (Nat.zero_le _) (Nat.le_of_ble_eq_true rfl) rfl ?_
  refine U_imul (n := 48) C dX4_signSeen_47 rfl ?_
  refine U_aload_n (n := 49) 3 C dX4_signSeen_48 rfl rfl rfl ?_
  refine U_iload_n (n := 50) 2 C dX4_signSeen_49 rfl rfl ?_
  refine U_iload_n (n := 51) 1 C dX4_signSeen_50 rfl rfl ?_
  refine U_iconst (n := 52) (1 : Int32) C dX4_signSeen_51 kiconst_1 rfl ?_
  obtain ⟨v9, ev9, hf⟩ := bsome hf
  refine cv_RX4_214 (n := 55) C dX4_signSeen_52 (av := [.int v2, .int v4, .int (1 : Int32)]) rfl (rc_X4_apart ev9) (M_X4_apart ev9) (Nat.le_of_ble_eq_true rfl) (Nat.zero_le _) (Nat.zero_le _) (Nat.le_of_ble_eq_true rfl) rfl ?_
  refine U_aload_n (n := 56) 3 C dX4_signSeen_55 rfl rfl rfl ?_
  refine U_iload_n (n := 57) 2 C dX4_signSeen_56 rfl rfl ?_
  refine U_iload (n := 59) 0 C dX4_signSeen_57 rfl rfl ?_
  refine U_iconst (n := 60) (0 : Int32) C dX4_signSeen_59 kiconst_0 rfl ?_
  obtain ⟨v10, ev10, hf⟩ := bsome hf
  refine cv_RX4_214 (n := 63) C dX4_signSeen_60 (av := [.int v2, .int v6, .int (0 : Int32)]) rfl (rc_X4_apart ev10) (M_X4_apart ev10) (Nat.le_of_ble_eq_true rfl) (Nat.zero_le _) (Nat.zero_le _) (Nat.le_of_ble_eq_true rfl) rfl ?_
  refine U_imul (n := 64) C dX4_signSeen_63 rfl ?_
  refine U_isub (n := 65) C dX4_signSeen_64 rfl ?_
  refine U_istore (n := 67) (lv2 := [(5, .int ((v7 * v8) - (v9 * v10))), (4, .int v6), (3, .int v4), (2, .int v2), (0, .ref o), (1, .int a1)]) C dX4_signSeen_65 (by decide) rfl rfl ?_
  refine U_iload (n := 69) 0 C dX4_signSeen_67 rfl rfl ?_
  refine U_ifle (tgt := 76) (n := 72) C dX4_signSeen_69 (by decide) rfl (fun c11 => ?_) (fun c11 => ?_)
  · replace hf := (if_pos c11).symm.trans hf
    refine U_iload (n := 78) 0 C dX4_signSeen_76 rfl rfl ?_
    refine U_ifge (tgt := 85) (n := 81) C dX4_signSeen_78 (by decide) rfl (fun c12 => ?_) (fun c12 => ?_)
    · replace hf := (if_pos c12).symm.trans hf
      refine U_iconst (n := 86) (0 : Int32) C dX4_signSeen_85 kiconst_0 rfl ?_
      have hr := (Option.some.inj hf)
      subst hr
      subst hQ
      exact U_iret C dX4_signSeen_86 (Nat.le_refl 0) (Nat.le_refl 0)
    · replace hf := (if_neg c12).symm.trans hf
      refine U_iconst (n := 82) (-1 : Int32) C dX4_signSeen_81 kiconst_m1 rfl ?_
      refine U_goto (n := 0) (tgt := 86) C dX4_signSeen_82 (by decide) ?_
      have hr := (Option.some.inj hf)
      subst hr
      subst hQ
      exact U_iret C dX4_signSeen_86 (Nat.le_refl 0) (Nat.le_refl 0)
  · replace hf := (if_neg c11).symm.trans hf
    refine U_iconst (n := 73) (1 : Int32) C dX4_signSeen_72 kiconst_1 rfl ?_
    refine U_goto (n := 0) (tgt := 86) C dX4_signSeen_73 (by decide) ?_
    have hr := (Option.some.inj hf)
    subst hr
    subst hQ
    exact U_iret C dX4_signSeen_86 (Nat.le_refl 0) (Nat.le_refl 0)
def l_X4_read_8 (p0 : Nat) : Nat → Int32 → Int32 → Hp → Option (Int32 × Hp)
  | 0, _, _, _ => none
  | fuel + 1, x1, x2, h =>
    (fI 4 9 h p0).bind fun v3 =>
    if v3 ≤ x2 then (
      some ((x1, h))
    ) else (
      (f_X4_isSeen p0 x2 h).bind fun v5 =>
      bind2 (
        if v5 = 0 then (
          some ((x1, h))
        ) else (
          (f_X4_signSeen p0 x2 h).bind fun v12 =>
          (f_X4_gives p0 x2 v12 h).bind fun h14 =>
          some (((x1 + 1), h14))
        )
      ) fun v7 h8 =>
      l_X4_read_8 p0 fuel v7 (x2 + 1) h8
    )
def f_X4_read (o : Nat) (h : Hp) : Option (Int32 × Hp) :=
  (rc 4 h o).bind fun _ =>
  (f_X4_hold o h).bind fun h2 =>
  bind2 (l_X4_read_8 o FU (0 : Int32) (0 : Int32) h2) fun v15 h16 =>
  bind2 (f_X4_ends o v15 h16) fun v17 h18 =>
  some ((v17, h18))
set_option maxHeartbeats 2000000 in
set_option maxRecDepth 20000 in
theorem L_X4_read_8 {g : GT} {Γ : CT} {Q : State → Prop} {mc ms : Nat} (C : Cx g Γ cX4_read RX4 "read" 3 (some .int) 10 mc ms) {p0 : Nat} : ∀ {fuel : Nat} {x1 : Int32} {x2 : Int32} {h : Hp} {y1 : Int32} {hy : Hp}, l_X4_read_8 p0 fuel x1 x2 h = some (y1, hy) → U g Γ 3 Q 0 0 43 [(0, .ref p0), (1, .int y1)] [] hy → U g Γ 3 Q 0 0 8 [(0, .ref p0), (1, .int x1), (2, .int x2)] [] h := by
  intro fuel
  induction fuel with
  | zero =>
    intro x1 x2 h y1 hy hf J0
    simp only [l_X4_read_8, reduceCtorEq] at hf
  | succ fuel ih =>
    intro x1 x2 h y1 hy hf J0
    rw [l_X4_read_8] at hf
    refine U_iload_n (n := 9) 2 C dX4_read_8 rfl rfl ?_
    refine U_aload_n (n := 10) 0 C dX4_read_9 rfl rfl rfl ?_
    refine gf_RX4_71 (n := 13) C dX4_read_10 hf rfl (fun v3 hf => ?_)
    refine U_icge (tgt := 43) (n := 16) C dX4_read_13 (by decide) rfl (fun c4 => ?_) (fun c4 => ?_)
    · replace hf := (if_pos c4).symm.trans hf
      obtain ⟨hr0, hs0⟩ := Prod.mk.inj (Option.some.inj hf)
      subst hr0
      subst hs0
      exact U_lv [0, 1] rfl J0
    · replace hf := (if_neg c4).symm.trans hf
      refine U_aload_n (n := 17) 0 C dX4_read_16 rfl rfl rfl ?_
      refine U_iload_n (n := 18) 2 C dX4_read_17 rfl rfl ?_
      obtain ⟨v5, ev5, hf⟩ := bsome hf
      refine cv_RX4_217 (n := 21) C dX4_read_18 (av := [.int x2]) rfl (rc_X4_isSeen ev5) (M_X4_isSeen ev5) (Nat.le_of_ble_eq_true rfl) (Nat.zero_le _) (Nat.zero_le _) (Nat.le_of_ble_eq_true rfl) rfl ?_
      refine U_join2 (fun v7 h8 => U g Γ 3 Q 0 0 37 [(0, .ref p0), (1, .int v7), (2, .int x2)] [] h8) hf (fun v7 h8 hf => ?_) (fun v7 h8 hf J10 => ?_)
      · skip
        refine U_iinc (n := 40) (v := (x2 + 1)) (lv2 := [(2, .int (x2 + 1)), (0, .ref p0), (1, .int v7)]) 2 C dX4_read_37 rfl rfl (by decide) rfl rfl ?_
        refine U_goto (n := 0) (tgt := 8) C dX4_read_40 (by decide) ?_
        exact U_lv [1, 2, 0] rfl (ih hf J0)
      · skip
        refine U_ifeq (tgt := 37) (n := 24) C dX4_read_21 (by decide) rfl (fun c6 => ?_) (fun c6 => ?_)
        · replace hf := (if_pos c6).symm.trans hf
          obtain ⟨hr0, hs0⟩ := Prod.mk.inj (Option.some.inj hf)
          subst hr0
          subst hs0
          exact U_lv [0, 1, 2] rfl J10
        · replace hf := (if_neg c6).symm.trans hf
          refine U_aload_n (n := 25) 0 C dX4_read_24 rfl rfl rfl ?_
          refine U_iload_n (n := 26) 2 C dX4_read_25 rfl rfl ?_
          refine U_aload_n (n := 27) 0 C dX4_read_26 rfl rfl rfl ?_
          refine U_iload_n (n := 28) 2 C dX4_read_27 rfl rfl ?_
          obtain ⟨v12, ev12, hf⟩ := bsome hf
          refine cv_RX4_220 (n := 31) C dX4_read_28 (av := [.int x2]) rfl (rc_X4_signSeen ev12) (M_X4_signSeen ev12) (Nat.le_of_ble_eq_true rfl) (Nat.zero_le _) (Nat.zero_le _) (Nat.le_of_ble_eq_true rfl) rfl ?_
          obtain ⟨h14, ev13, hf⟩ := bsome hf
          refine cv_RX4_135 (n := 34) C dX4_read_31 (av := [.int x2, .int v12]) rfl (rc_X4_gives ev13) (M_X4_gives ev13) (Nat.le_of_ble_eq_true rfl) (Nat.zero_le _) (Nat.zero_le _) (Nat.le_of_ble_eq_true rfl) rfl ?_
          refine U_iinc (n := 37) (v := (x1 + 1)) (lv2 := [(1, .int (x1 + 1)), (0, .ref p0), (2, .int x2)]) 1 C dX4_read_34 rfl rfl (by decide) rfl rfl ?_
          obtain ⟨hr0, hs0⟩ := Prod.mk.inj (Option.some.inj hf)
          subst hr0
          subst hs0
          exact U_lv [1, 0, 2] rfl J10
theorem rc_X4_read {o : Nat} {h : Hp} {z} (hf : f_X4_read o h = some z) : rc 4 h o = some () := by
  unfold f_X4_read at hf
  exact (bsome hf).choose_spec.1
set_option maxHeartbeats 2000000 in
set_option maxRecDepth 20000 in
theorem M_X4_read {g : GT} {o : Nat} {h : Hp} {r : Int32} {h2 : Hp} (hf : f_X4_read o h = some (r, h2)) : CM g yX4_read cX4_read 3 (some .int) 10 0 0 [.ref o] h (.inr (some (.int r))) h2 := by
  refine CM_of rfl (fun _ => Nat.le_of_ble_eq_true rfl) (fun Γ C hn0 => ?_)
  have C : Cx g Γ cX4_read RX4 "read" 3 (some .int) 10 0 0 := C
  generalize hQ : Qe g Γ (.inr (some (.int r))) h2 0 0 = Q
  show U g Γ 3 Q 0 0 0 [(0, .ref o)] [] h
  unfold f_X4_read at hf
  replace hf := (bsome hf).choose_spec.2
  refine U_aload_n (n := 1) 0 C dX4_read_0 rfl rfl rfl ?_
  obtain ⟨h2, ev1, hf⟩ := bsome hf
  refine cv_RX4_116 (n := 4) C dX4_read_1 (av := []) rfl (rc_X4_hold ev1) (M_X4_hold ev1) (Nat.le_of_ble_eq_true rfl) (Nat.zero_le _) (Nat.zero_le _) (Nat.le_of_ble_eq_true rfl) rfl ?_
  refine U_iconst (n := 5) (0 : Int32) C dX4_read_4 kiconst_0 rfl ?_
  refine U_istore_n (n := 6) (lv2 := [(1, .int (0 : Int32)), (0, .ref o)]) C dX4_read_5 (by decide) rfl rfl ?_
  refine U_iconst (n := 7) (0 : Int32) C dX4_read_6 kiconst_0 rfl ?_
  refine U_istore_n (n := 8) (lv2 := [(2, .int (0 : Int32)), (1, .int (0 : Int32)), (0, .ref o)]) C dX4_read_7 (by decide) rfl rfl ?_
  refine U_join2 (fun v15 h16 => U g Γ 3 Q 0 0 43 [(0, .ref o), (1, .int v15)] [] h16) hf (fun v15 h16 hf => ?_) (fun v15 h16 hf J => U_lv [2, 1, 0] rfl (L_X4_read_8 C hf J))
  refine U_aload_n (n := 44) 0 C dX4_read_43 rfl rfl rfl ?_
  refine U_iload_n (n := 45) 1 C dX4_read_44 rfl rfl ?_
  obtain ⟨v17, h18, ev17, hf⟩ := bsome2 hf
  refine cv_RX4_119 (n := 48) C dX4_read_45 (av := [.int v15]) rfl (rc_X4_ends ev17) (M_X4_ends ev17) (Nat.le_of_ble_eq_true rfl) (Nat.zero_le _) (Nat.zero_le _) (Nat.le_of_ble_eq_true rfl) rfl ?_
  obtain ⟨hr1, hr2⟩ := Prod.mk.inj (Option.some.inj hf)
  subst hr1; subst hr2
  subst hQ
  exact U_iret C dX4_read_48 (Nat.le_refl 0) (Nat.le_refl 0)
def l_X4_wrong_4 (p0 : Nat) (h : Hp) : Nat → Int32 → Int32 → Option Int32
  | 0, _, _ => none
  | fuel + 1, x1, x2 =>
    (fI 4 9 h p0).bind fun v1 =>
    if v1 ≤ x2 then (
      some x1
    ) else (
      (f_X4_get p0 x2 (0 : Int32) h).bind fun v3 =>
      (
        if v3 = (-100 : Int32) then (
          some ((0 : Int32))
        ) else (
          (f_X4_isSeen p0 x2 h).bind fun v9 =>
          if v9 = 0 then (
            some ((0 : Int32))
          ) else (
            (f_X4_signSeen p0 x2 h).bind fun v11 =>
            (f_X4_get p0 x2 (0 : Int32) h).bind fun v12 =>
            if v11 = v12 then (
              some ((0 : Int32))
            ) else (
              some ((1 : Int32))
            )
          )
        )
      ).bind fun v5 =>
      l_X4_wrong_4 p0 h fuel (x1 + v5) (x2 + 1)
    )
def f_X4_wrong (o : Nat) (h : Hp) : Option Int32 :=
  (rc 4 h o).bind fun _ =>
  (l_X4_wrong_4 o h FU (0 : Int32) (0 : Int32)).bind fun v14 =>
  some (v14)
set_option maxHeartbeats 2000000 in
set_option maxRecDepth 20000 in
theorem L_X4_wrong_4 {g : GT} {Γ : CT} {Q : State → Prop} {mc ms : Nat} (C : Cx g Γ cX4_wrong RX4 "wrong" 3 (some .int) 8 mc ms) {p0 : Nat} {h : Hp} : ∀ {fuel : Nat} {x1 : Int32} {x2 : Int32} {y1 : Int32}, l_X4_wrong_4 p0 h fuel x1 x2 = some y1 → U g Γ 3 Q 0 0 59 [(1, .int y1)] [] h → U g Γ 3 Q 0 0 4 [(0, .ref p0), (1, .int x1), (2, .int x2)] [] h := by
  intro fuel
  induction fuel with
  | zero =>
    intro x1 x2 y1 hf J0
    simp only [l_X4_wrong_4, reduceCtorEq] at hf
  | succ fuel ih =>
    intro x1 x2 y1 hf J0
    rw [l_X4_wrong_4] at hf
    refine U_iload_n (n := 5) 2 C dX4_wrong_4 rfl rfl ?_
    refine U_aload_n (n := 6) 0 C dX4_wrong_5 rfl rfl rfl ?_
    refine gf_RX4_71 (n := 9) C dX4_wrong_6 hf rfl (fun v1 hf => ?_)
    refine U_icge (tgt := 59) (n := 12) C dX4_wrong_9 (by decide) rfl (fun c2 => ?_) (fun c2 => ?_)
    · replace hf := (if_pos c2).symm.trans hf
      have hr := Option.some.inj hf
      subst hr
      exact U_lv [1] rfl J0
    · replace hf := (if_neg c2).symm.trans hf
      refine U_iload_n (n := 13) 1 C dX4_wrong_12 rfl rfl ?_
      refine U_aload_n (n := 14) 0 C dX4_wrong_13 rfl rfl rfl ?_
      refine U_iload_n (n := 15) 2 C dX4_wrong_14 rfl rfl ?_
      refine U_iconst (n := 16) (0 : Int32) C dX4_wrong_15 kiconst_0 rfl ?_
      obtain ⟨v3, ev3, hf⟩ := bsome hf
      refine cv_RX4_106 (n := 19) C dX4_wrong_16 (av := [.int x2, .int (0 : Int32)]) rfl (rc_X4_get ev3) (M_X4_get ev3) (Nat.le_of_ble_eq_true rfl) (Nat.zero_le _) (Nat.zero_le _) (Nat.le_of_ble_eq_true rfl) rfl ?_
      refine U_bipush (n := 21) (-100 : Int32) C dX4_wrong_19 kbipush_m100 rfl ?_
      refine U_join1 (fun v5 => U g Γ 3 Q 0 0 51 [(0, .ref p0), (2, .int x2)] [.int v5, .int x1] h) hf (fun v5 hf => ?_) (fun v5 hf J7 => ?_)
      · skip
        refine U_iadd (n := 52) C dX4_wrong_51 rfl ?_
        refine U_istore_n (n := 53) (lv2 := [(1, .int (x1 + v5)), (0, .ref p0), (2, .int x2)]) C dX4_wrong_52 (by decide) rfl rfl ?_
        refine U_iinc (n := 56) (v := (x2 + 1)) (lv2 := [(2, .int (x2 + 1)), (1, .int (x1 + v5)), (0, .ref p0)]) 2 C dX4_wrong_53 rfl rfl (by decide) rfl rfl ?_
        refine U_goto (n := 0) (tgt := 4) C dX4_wrong_56 (by decide) ?_
        exact U_lv [2, 1, 0] rfl (ih hf J0)
      · skip
        refine U_iceq (tgt := 50) (n := 24) C dX4_wrong_21 (by decide) rfl (fun c4 => ?_) (fun c4 => ?_)
        · replace hf := (if_pos c4).symm.trans hf
          refine U_iconst (n := 51) (0 : Int32) C dX4_wrong_50 kiconst_0 rfl ?_
          have hr := Option.some.inj hf
          subst hr
          exact U_lv [0, 2] rfl J7
        · replace hf := (if_neg c4).symm.trans hf
          refine U_aload_n (n := 25) 0 C dX4_wrong_24 rfl rfl rfl ?_
          refine U_iload_n (n := 26) 2 C dX4_wrong_25 rfl rfl ?_
          obtain ⟨v9, ev9, hf⟩ := bsome hf
          refine cv_RX4_217 (n := 29) C dX4_wrong_26 (av := [.int x2]) rfl (rc_X4_isSeen ev9) (M_X4_isSeen ev9) (Nat.le_of_ble_eq_true rfl) (Nat.zero_le _) (Nat.zero_le _) (Nat.le_of_ble_eq_true rfl) rfl ?_
          refine U_ifeq (tgt := 50) (n := 32) C dX4_wrong_29 (by decide) rfl (fun c10 => ?_) (fun c10 => ?_)
          · replace hf := (if_pos c10).symm.trans hf
            refine U_iconst (n := 51) (0 : Int32) C dX4_wrong_50 kiconst_0 rfl ?_
            have hr := Option.some.inj hf
            subst hr
            exact U_lv [0, 2] rfl J7
          · replace hf := (if_neg c10).symm.trans hf
            refine U_aload_n (n := 33) 0 C dX4_wrong_32 rfl rfl rfl ?_
            refine U_iload_n (n := 34) 2 C dX4_wrong_33 rfl rfl ?_
            obtain ⟨v11, ev11, hf⟩ := bsome hf
            refine cv_RX4_220 (n := 37) C dX4_wrong_34 (av := [.int x2]) rfl (rc_X4_signSeen ev11) (M_X4_signSeen ev11) (Nat.le_of_ble_eq_true rfl) (Nat.zero_le _) (Nat.zero_le _) (Nat.le_of_ble_eq_true rfl) rfl ?_
            refine U_aload_n (n := 38) 0 C dX4_wrong_37 rfl rfl rfl ?_
            refine U_iload_n (n := 39) 2 C dX4_wrong_38 rfl rfl ?_
            refine U_iconst (n := 40) (0 : Int32) C dX4_wrong_39 kiconst_0 rfl ?_
            obtain ⟨v12, ev12, hf⟩ := bsome hf
            refine cv_RX4_106 (n := 43) C dX4_wrong_40 (av := [.int x2, .int (0 : Int32)]) rfl (rc_X4_get ev12) (M_X4_get ev12) (Nat.le_of_ble_eq_true rfl) (Nat.zero_le _) (Nat.zero_le _) (Nat.le_of_ble_eq_true rfl) rfl ?_
            refine U_iceq (tgt := 50) (n := 46) C dX4_wrong_43 (by decide) rfl (fun c13 => ?_) (fun c13 => ?_)
            · replace hf := (if_pos c13).symm.trans hf
              refine U_iconst (n := 51) (0 : Int32) C dX4_wrong_50 kiconst_0 rfl ?_
              have hr := Option.some.inj hf
              subst hr
              exact U_lv [0, 2] rfl J7
            · replace hf := (if_neg c13).symm.trans hf
              refine U_iconst (n := 47) (1 : Int32) C dX4_wrong_46 kiconst_1 rfl ?_
              refine U_goto (n := 0) (tgt := 51) C dX4_wrong_47 (by decide) ?_
              have hr := Option.some.inj hf
              subst hr
              exact U_lv [0, 2] rfl J7
theorem rc_X4_wrong {o : Nat} {h : Hp} {z} (hf : f_X4_wrong o h = some z) : rc 4 h o = some () := by
  unfold f_X4_wrong at hf
  exact (bsome hf).choose_spec.1
set_option maxHeartbeats 2000000 in
set_option maxRecDepth 20000 in
theorem M_X4_wrong {g : GT} {o : Nat} {h : Hp} {r : Int32} (hf : f_X4_wrong o h = some r) : CM g yX4_wrong cX4_wrong 3 (some .int) 8 0 0 [.ref o] h (.inr (some (.int r))) h := by
  refine CM_of rfl (fun _ => Nat.le_of_ble_eq_true rfl) (fun Γ C hn0 => ?_)
  have C : Cx g Γ cX4_wrong RX4 "wrong" 3 (some .int) 8 0 0 := C
  generalize hQ : Qe g Γ (.inr (some (.int r))) h 0 0 = Q
  show U g Γ 3 Q 0 0 0 [(0, .ref o)] [] h
  unfold f_X4_wrong at hf
  replace hf := (bsome hf).choose_spec.2
  refine U_iconst (n := 1) (0 : Int32) C dX4_wrong_0 kiconst_0 rfl ?_
  refine U_istore_n (n := 2) (lv2 := [(1, .int (0 : Int32)), (0, .ref o)]) C dX4_wrong_1 (by decide) rfl rfl ?_
  refine U_iconst (n := 3) (0 : Int32) C dX4_wrong_2 kiconst_0 rfl ?_
  refine U_istore_n (n := 4) (lv2 := [(2, .int (0 : Int32)), (1, .int (0 : Int32)), (0, .ref o)]) C dX4_wrong_3 (by decide) rfl rfl ?_
  refine U_join1 (fun v14 => U g Γ 3 Q 0 0 59 [(1, .int v14)] [] h) hf (fun v14 hf => ?_) (fun v14 hf J => U_lv [2, 1, 0] rfl (L_X4_wrong_4 C hf J))
  refine U_iload_n (n := 60) 0 C dX4_wrong_59 rfl rfl ?_
  have hr := (Option.some.inj hf)
  subst hr
  subst hQ
  exact U_iret C dX4_wrong_60 (Nat.le_refl 0) (Nat.le_refl 0)
def f_X4_mismatches (o : Nat) (h : Hp) : Option (Int32 × Hp) :=
  (rc 4 h o).bind fun _ =>
  (f_X4_wrong o h).bind fun v1 =>
  bind2 (f_X4_tells o v1 h) fun v2 h3 =>
  some ((v2, h3))
theorem rc_X4_mismatches {o : Nat} {h : Hp} {z} (hf : f_X4_mismatches o h = some z) : rc 4 h o = some () := by
  unfold f_X4_mismatches at hf
  exact (bsome hf).choose_spec.1
set_option maxHeartbeats 2000000 in
set_option maxRecDepth 20000 in
theorem M_X4_mismatches {g : GT} {o : Nat} {h : Hp} {r : Int32} {h2 : Hp} (hf : f_X4_mismatches o h = some (r, h2)) : CM g yX4_mismatches cX4_mismatches 1 (some .int) 9 0 0 [.ref o] h (.inr (some (.int r))) h2 := by
  refine CM_of rfl (fun _ => Nat.le_of_ble_eq_true rfl) (fun Γ C hn0 => ?_)
  have C : Cx g Γ cX4_mismatches RX4 "mismatches" 1 (some .int) 9 0 0 := C
  generalize hQ : Qe g Γ (.inr (some (.int r))) h2 0 0 = Q
  show U g Γ 1 Q 0 0 0 [(0, .ref o)] [] h
  unfold f_X4_mismatches at hf
  replace hf := (bsome hf).choose_spec.2
  refine U_aload_n (n := 1) 0 C dX4_mismatches_0 rfl rfl rfl ?_
  refine U_aload_n (n := 2) 0 C dX4_mismatches_1 rfl rfl rfl ?_
  obtain ⟨v1, ev1, hf⟩ := bsome hf
  refine cv_RX4_223 (n := 5) C dX4_mismatches_2 (av := []) rfl (rc_X4_wrong ev1) (M_X4_wrong ev1) (Nat.le_of_ble_eq_true rfl) (Nat.zero_le _) (Nat.zero_le _) (Nat.le_of_ble_eq_true rfl) rfl ?_
  obtain ⟨v2, h3, ev2, hf⟩ := bsome2 hf
  refine cv_RX4_67 (n := 8) C dX4_mismatches_5 (av := [.int v1]) rfl (rc_X4_tells ev2) (M_X4_tells ev2) (Nat.le_of_ble_eq_true rfl) (Nat.zero_le _) (Nat.zero_le _) (Nat.le_of_ble_eq_true rfl) rfl ?_
  obtain ⟨hr1, hr2⟩ := Prod.mk.inj (Option.some.inj hf)
  subst hr1; subst hr2
  subst hQ
  exact U_iret C dX4_mismatches_8 (Nat.le_refl 0) (Nat.le_refl 0)
def l_X4_scatter_60 (p0 : Nat) (p3 : Int32) : Nat → Int64 → Int32 → Hp → Option (Int64 × Hp)
  | 0, _, _, _ => none
  | fuel + 1, x4, x8, h =>
    (fR 4 0 h p0).bind fun v16 =>
    (aI h v16 (0 : Int32)).bind fun v17 =>
    if ((2 : Int32) * v17) ≤ x8 then (
      some ((x4, h))
    ) else (
      (fR 4 0 h p0).bind fun v19 =>
      (gNJ (((2 : Int64) * (p3).toInt64) + (1 : Int64))).bind fun _ =>
      (wI h v19 ((227 : Int32) + x8) ((((((((1103515245 : Int64) * x4) + (12345 : Int64)) - (((1103515245 : Int64) * x4) + (12345 : Int64)) / (2147483648 : Int64) * (2147483648 : Int64)) / (65536 : Int64)) - (((((1103515245 : Int64) * x4) + (12345 : Int64)) - (((1103515245 : Int64) * x4) + (12345 : Int64)) / (2147483648 : Int64) * (2147483648 : Int64)) / (65536 : Int64)) / (((2 : Int64) * (p3).toInt64) + (1 : Int64)) * (((2 : Int64) * (p3).toInt64) + (1 : Int64)))).toInt32 - p3)).bind fun h21 =>
      l_X4_scatter_60 p0 p3 fuel ((((1103515245 : Int64) * x4) + (12345 : Int64)) - (((1103515245 : Int64) * x4) + (12345 : Int64)) / (2147483648 : Int64) * (2147483648 : Int64)) (x8 + 1) h21
    )
def l_X4_scatter_168 (p0 : Nat) (p9 : Int32) : Nat → Int32 → Hp → Option Hp
  | 0, _, _ => none
  | fuel + 1, x10, h =>
    if (16 : Int32) ≤ x10 then (
      some h
    ) else (
      (fR 4 19 h p0).bind fun v36 =>
      (
        if p9 = 0 then (
          (fR 4 19 h p0).bind fun v43 =>
          (aI h v43 x10).bind fun v44 =>
          some v44
        ) else (
          (fR 4 0 h p0).bind fun v45 =>
          (aI h v45 ((227 : Int32) + x10)).bind fun v46 =>
          some v46
        )
      ).bind fun v38 =>
      (wI h v36 x10 v38).bind fun h42 =>
      l_X4_scatter_168 p0 p9 fuel (x10 + 1) h42
    )
def l_X4_scatter_51 (p0 : Nat) (p2 : Int32) (p3 : Int32) : Nat → Int64 → Int32 → Int32 → Hp → Option (Int32 × Hp)
  | 0, _, _, _, _ => none
  | fuel + 1, x4, x6, x7, h =>
    if p2 ≤ x7 then (
      some ((x6, h))
    ) else (
      bind2 (l_X4_scatter_60 p0 p3 FU x4 (0 : Int32) h) fun v22 h23 =>
      (f_X4_wrong p0 h23).bind fun v24 =>
      (
        if x6 = (-100 : Int32) then (
          some ((1 : Int32))
        ) else (
          if x6 ≤ v24 then (
            some ((0 : Int32))
          ) else (
            some ((1 : Int32))
          )
        )
      ).bind fun v26 =>
      (
        if v26 = 0 then (
          some x6
        ) else (
          some v24
        )
      ).bind fun v31 =>
      (l_X4_scatter_168 p0 v26 FU (0 : Int32) h23).bind fun h47 =>
      l_X4_scatter_51 p0 p2 p3 fuel v22 v31 (x7 + 1) h47
    )
def l_X4_scatter_223 (p0 : Nat) : Nat → Int32 → Hp → Option Hp
  | 0, _, _ => none
  | fuel + 1, x7, h =>
    if (16 : Int32) ≤ x7 then (
      some h
    ) else (
      (fR 4 0 h p0).bind fun v52 =>
      (fR 4 19 h p0).bind fun v53 =>
      (aI h v53 x7).bind fun v54 =>
      (wI h v52 ((227 : Int32) + x7) v54).bind fun h55 =>
      l_X4_scatter_223 p0 fuel (x7 + 1) h55
    )
def f_X4_scatter (o : Nat) (a1 : Int32) (a2 : Int32) (a3 : Int32) (h : Hp) : Option (Int32 × Hp) :=
  (rc 4 h o).bind fun _ =>
  (f_X4_in a1 (0 : Int32) (999999 : Int32)).bind fun v1 =>
  if v1 = 0 then (
    bind2 (f_X4_fails o (1 : Int32) h) fun v3 h4 =>
    some ((v3, h4))
  ) else (
    (f_X4_in a2 (1 : Int32) (50 : Int32)).bind fun v5 =>
    if v5 = 0 then (
      bind2 (f_X4_fails o (1 : Int32) h) fun v7 h8 =>
      some ((v7, h8))
    ) else (
      (f_X4_in a3 (1 : Int32) (50 : Int32)).bind fun v9 =>
      if v9 = 0 then (
        bind2 (f_X4_fails o (1 : Int32) h) fun v11 h12 =>
        some ((v11, h12))
      ) else (
        (f_X4_hold o h).bind fun h14 =>
        bind2 (l_X4_scatter_51 o a2 a3 FU (a1).toInt64 (-100 : Int32) (0 : Int32) h14) fun v49 h50 =>
        (l_X4_scatter_223 o FU (0 : Int32) h50).bind fun h56 =>
        bind2 (f_X4_ends o v49 h56) fun v57 h58 =>
        some ((v57, h58))
      )
    )
  )
set_option maxHeartbeats 2000000 in
set_option maxRecDepth 20000 in
theorem L_X4_scatter_60 {g : GT} {Γ : CT} {Q : State → Prop} {mc ms : Nat} (C : Cx g Γ cX4_scatter RX4 "scatter" 11 (some .int) 9 mc ms) {p0 : Nat} {p2 : Int32} {p3 : Int32} {p6 : Int32} {p7 : Int32} : ∀ {fuel : Nat} {x4 : Int64} {x8 : Int32} {h : Hp} {y4 : Int64} {hy : Hp}, l_X4_scatter_60 p0 p3 fuel x4 x8 h = some (y4, hy) → U g Γ 11 Q 0 0 124 [(0, .ref p0), (2, .int p2), (3, .int p3), (4, .long y4), (6, .int p6), (7, .int p7)] [] hy → U g Γ 11 Q 0 0 60 [(0, .ref p0), (2, .int p2), (3, .int p3), (4, .long x4), (6, .int p6), (7, .int p7), (8, .int x8)] [] h := by
  intro fuel
  induction fuel with
  | zero =>
    intro x4 x8 h y4 hy hf J0
    simp only [l_X4_scatter_60, reduceCtorEq] at hf
  | succ fuel ih =>
    intro x4 x8 h y4 hy hf J0
    rw [l_X4_scatter_60] at hf
    refine U_iload (n := 62) 6 C dX4_scatter_60 rfl rfl ?_
    refine U_iconst (n := 63) (2 : Int32) C dX4_scatter_62 kiconst_2 rfl ?_
    refine U_aload_n (n := 64) 0 C dX4_scatter_63 rfl rfl rfl ?_
    refine gf_RX4_7 (n := 67) C dX4_scatter_64 hf rfl (fun v16 hf => ?_)
    refine U_iconst (n := 68) (0 : Int32) C dX4_scatter_67 kiconst_0 rfl ?_
    refine U_iald (n := 69) C dX4_scatter_68 hf rfl (fun v17 hf => ?_)
    refine U_imul (n := 70) C dX4_scatter_69 rfl ?_
    refine U_icge (tgt := 124) (n := 73) C dX4_scatter_70 (by decide) rfl (fun c18 => ?_) (fun c18 => ?_)
    · replace hf := (if_pos c18).symm.trans hf
      obtain ⟨hr0, hs0⟩ := Prod.mk.inj (Option.some.inj hf)
      subst hr0
      subst hs0
      exact U_lv [0, 1, 2, 3, 4, 5] rfl J0
    · replace hf := (if_neg c18).symm.trans hf
      refine U_ldc2 (n := 76) (1103515245 : Int64) C dX4_scatter_73 ct_RX4_227 rfl ?_
      refine U_lload (n := 78) 3 C dX4_scatter_76 rfl rfl ?_
      refine U_lmul (n := 79) C dX4_scatter_78 rfl ?_
      refine U_ldc2 (n := 82) (12345 : Int64) C dX4_scatter_79 ct_RX4_229 rfl ?_
      refine U_ladd (n := 83) C dX4_scatter_82 rfl ?_
      refine U_ldc2 (n := 86) (2147483648 : Int64) C dX4_scatter_83 ct_RX4_231 rfl ?_
      refine U_lrem (n := 87) C dX4_scatter_86 (by decide) rfl ?_
      refine U_lstore (n := 89) (lv2 := [(4, .long ((((1103515245 : Int64) * x4) + (12345 : Int64)) - (((1103515245 : Int64) * x4) + (12345 : Int64)) / (2147483648 : Int64) * (2147483648 : Int64))), (0, .ref p0), (2, .int p2), (3, .int p3), (6, .int p6), (7, .int p7), (8, .int x8)]) C dX4_scatter_87 (by decide) rfl rfl ?_
      refine U_aload_n (n := 90) 1 C dX4_scatter_89 rfl rfl rfl ?_
      refine gf_RX4_7 (n := 93) C dX4_scatter_90 hf rfl (fun v19 hf => ?_)
      refine U_sipush (n := 96) (227 : Int32) C dX4_scatter_93 ksipush_227 rfl ?_
      refine U_iload (n := 98) 6 C dX4_scatter_96 rfl rfl ?_
      refine U_iadd (n := 99) C dX4_scatter_98 rfl ?_
      refine U_lload (n := 101) 0 C dX4_scatter_99 rfl rfl ?_
      refine U_ldc2 (n := 104) (65536 : Int64) C dX4_scatter_101 ct_RX4_233 rfl ?_
      refine U_ldiv (n := 105) C dX4_scatter_104 (by decide) rfl ?_
      refine U_ldc2 (n := 108) (2 : Int64) C dX4_scatter_105 ct_RX4_235 rfl ?_
      refine U_iload_n (n := 109) 3 C dX4_scatter_108 rfl rfl ?_
      refine U_i2l (n := 110) C dX4_scatter_109 rfl ?_
      refine U_lmul (n := 111) C dX4_scatter_110 rfl ?_
      refine U_lconst (n := 112) (1 : Int64) C dX4_scatter_111 klconst_1 rfl ?_
      refine U_ladd (n := 113) C dX4_scatter_112 rfl ?_
      obtain ⟨_, hz20, hf⟩ := bsome hf
      replace hz20 := gNJ_spec hz20
      refine U_lrem (n := 114) C dX4_scatter_113 hz20 rfl ?_
      refine U_l2i (n := 115) C dX4_scatter_114 rfl ?_
      refine U_iload_n (n := 116) 3 C dX4_scatter_115 rfl rfl ?_
      refine U_isub (n := 117) C dX4_scatter_116 rfl ?_
      refine U_iast (n := 118) C dX4_scatter_117 hf rfl (fun h21 hf => ?_)
      refine U_iinc (n := 121) (v := (x8 + 1)) (lv2 := [(8, .int (x8 + 1)), (4, .long ((((1103515245 : Int64) * x4) + (12345 : Int64)) - (((1103515245 : Int64) * x4) + (12345 : Int64)) / (2147483648 : Int64) * (2147483648 : Int64))), (0, .ref p0), (2, .int p2), (3, .int p3), (6, .int p6), (7, .int p7)]) 6 C dX4_scatter_118 rfl rfl (by decide) rfl rfl ?_
      refine U_goto (n := 0) (tgt := 60) C dX4_scatter_121 (by decide) ?_
      exact U_lv [2, 3, 4, 1, 5, 6, 0] rfl (ih hf J0)
set_option maxHeartbeats 2000000 in
set_option maxRecDepth 20000 in
theorem L_X4_scatter_168 {g : GT} {Γ : CT} {Q : State → Prop} {mc ms : Nat} (C : Cx g Γ cX4_scatter RX4 "scatter" 11 (some .int) 9 mc ms) {p0 : Nat} {p2 : Int32} {p3 : Int32} {p4 : Int64} {p6 : Int32} {p7 : Int32} {p9 : Int32} : ∀ {fuel : Nat} {x10 : Int32} {h : Hp} {hy : Hp}, l_X4_scatter_168 p0 p9 fuel x10 h = some hy → U g Γ 11 Q 0 0 214 [(0, .ref p0), (2, .int p2), (3, .int p3), (4, .long p4), (6, .int p6), (7, .int p7)] [] hy → U g Γ 11 Q 0 0 168 [(0, .ref p0), (2, .int p2), (3, .int p3), (4, .long p4), (6, .int p6), (7, .int p7), (9, .int p9), (10, .int x10)] [] h := by
  intro fuel
  induction fuel with
  | zero =>
    intro x10 h hy hf J0
    simp only [l_X4_scatter_168, reduceCtorEq] at hf
  | succ fuel ih =>
    intro x10 h hy hf J0
    rw [l_X4_scatter_168] at hf
    refine U_iload (n := 170) 7 C dX4_scatter_168 rfl rfl ?_
    refine U_bipush (n := 172) (16 : Int32) C dX4_scatter_170 kbipush_16 rfl ?_
    refine U_icge (tgt := 214) (n := 175) C dX4_scatter_172 (by decide) rfl (fun c35 => ?_) (fun c35 => ?_)
    · replace hf := (if_pos c35).symm.trans hf
      have hr := Option.some.inj hf
      subst hr
      exact U_lv [0, 1, 2, 3, 4, 5] rfl J0
    · replace hf := (if_neg c35).symm.trans hf
      refine U_aload_n (n := 176) 0 C dX4_scatter_175 rfl rfl rfl ?_
      refine gf_RX4_50 (n := 179) C dX4_scatter_176 hf rfl (fun v36 hf => ?_)
      refine U_iload (n := 181) 7 C dX4_scatter_179 rfl rfl ?_
      refine U_iload (n := 183) 6 C dX4_scatter_181 rfl rfl ?_
      refine U_join1 (fun v38 => U g Γ 11 Q 0 0 207 [(0, .ref p0), (2, .int p2), (3, .int p3), (4, .long p4), (6, .int p6), (7, .int p7), (9, .int p9), (10, .int x10)] [.int v38, .int x10, .ref v36] h) hf (fun v38 hf => ?_) (fun v38 hf J40 => ?_)
      · skip
        refine U_iast (n := 208) C dX4_scatter_207 hf rfl (fun h42 hf => ?_)
        refine U_iinc (n := 211) (v := (x10 + 1)) (lv2 := [(10, .int (x10 + 1)), (0, .ref p0), (2, .int p2), (3, .int p3), (4, .long p4), (6, .int p6), (7, .int p7), (9, .int p9)]) 7 C dX4_scatter_208 rfl rfl (by decide) rfl rfl ?_
        refine U_goto (n := 0) (tgt := 168) C dX4_scatter_211 (by decide) ?_
        exact U_lv [1, 2, 3, 4, 5, 6, 7, 0] rfl (ih hf J0)
      · skip
        refine U_ifeq (tgt := 200) (n := 186) C dX4_scatter_183 (by decide) rfl (fun c37 => ?_) (fun c37 => ?_)
        · replace hf := (if_pos c37).symm.trans hf
          refine U_aload_n (n := 201) 0 C dX4_scatter_200 rfl rfl rfl ?_
          refine gf_RX4_50 (n := 204) C dX4_scatter_201 hf rfl (fun v43 hf => ?_)
          refine U_iload (n := 206) 7 C dX4_scatter_204 rfl rfl ?_
          refine U_iald (n := 207) C dX4_scatter_206 hf rfl (fun v44 hf => ?_)
          have hr := Option.some.inj hf
          subst hr
          exact U_lv [0, 1, 2, 3, 4, 5, 6, 7] rfl J40
        · replace hf := (if_neg c37).symm.trans hf
          refine U_aload_n (n := 187) 0 C dX4_scatter_186 rfl rfl rfl ?_
          refine gf_RX4_7 (n := 190) C dX4_scatter_187 hf rfl (fun v45 hf => ?_)
          refine U_sipush (n := 193) (227 : Int32) C dX4_scatter_190 ksipush_227 rfl ?_
          refine U_iload (n := 195) 7 C dX4_scatter_193 rfl rfl ?_
          refine U_iadd (n := 196) C dX4_scatter_195 rfl ?_
          refine U_iald (n := 197) C dX4_scatter_196 hf rfl (fun v46 hf => ?_)
          refine U_goto (n := 0) (tgt := 207) C dX4_scatter_197 (by decide) ?_
          have hr := Option.some.inj hf
          subst hr
          exact U_lv [0, 1, 2, 3, 4, 5, 6, 7] rfl J40
set_option maxHeartbeats 2000000 in
set_option maxRecDepth 20000 in
theorem L_X4_scatter_51 {g : GT} {Γ : CT} {Q : State → Prop} {mc ms : Nat} (C : Cx g Γ cX4_scatter RX4 "scatter" 11 (some .int) 9 mc ms) {p0 : Nat} {p2 : Int32} {p3 : Int32} : ∀ {fuel : Nat} {x4 : Int64} {x6 : Int32} {x7 : Int32} {h : Hp} {y6 : Int32} {hy : Hp}, l_X4_scatter_51 p0 p2 p3 fuel x4 x6 x7 h = some (y6, hy) → U g Γ 11 Q 0 0 220 [(0, .ref p0), (6, .int y6)] [] hy → U g Γ 11 Q 0 0 51 [(0, .ref p0), (2, .int p2), (3, .int p3), (4, .long x4), (6, .int x6), (7, .int x7)] [] h := by
  intro fuel
  induction fuel with
  | zero =>
    intro x4 x6 x7 h y6 hy hf J0
    simp only [l_X4_scatter_51, reduceCtorEq] at hf
  | succ fuel ih =>
    intro x4 x6 x7 h y6 hy hf J0
    rw [l_X4_scatter_51] at hf
    refine U_iload (n := 53) 5 C dX4_scatter_51 rfl rfl ?_
    refine U_iload_n (n := 54) 1 C dX4_scatter_53 rfl rfl ?_
    refine U_icge (tgt := 220) (n := 57) C dX4_scatter_54 (by decide) rfl (fun c15 => ?_) (fun c15 => ?_)
    · replace hf := (if_pos c15).symm.trans hf
      obtain ⟨hr0, hs0⟩ := Prod.mk.inj (Option.some.inj hf)
      subst hr0
      subst hs0
      exact U_lv [0, 4] rfl J0
    · replace hf := (if_neg c15).symm.trans hf
      refine U_iconst (n := 58) (0 : Int32) C dX4_scatter_57 kiconst_0 rfl ?_
      refine U_istore (n := 60) (lv2 := [(8, .int (0 : Int32)), (0, .ref p0), (2, .int p2), (3, .int p3), (4, .long x4), (6, .int x6), (7, .int x7)]) C dX4_scatter_58 (by decide) rfl rfl ?_
      refine U_join2 (fun v22 h23 => U g Γ 11 Q 0 0 124 [(0, .ref p0), (2, .int p2), (3, .int p3), (4, .long v22), (6, .int x6), (7, .int x7)] [] h23) hf (fun v22 h23 hf => ?_) (fun v22 h23 hf J => U_lv [1, 2, 3, 4, 5, 6, 0] rfl (L_X4_scatter_60 C hf J))
      refine U_aload_n (n := 125) 0 C dX4_scatter_124 rfl rfl rfl ?_
      obtain ⟨v24, ev24, hf⟩ := bsome hf
      refine cv_RX4_223 (n := 128) C dX4_scatter_125 (av := []) rfl (rc_X4_wrong ev24) (M_X4_wrong ev24) (Nat.le_of_ble_eq_true rfl) (Nat.zero_le _) (Nat.zero_le _) (Nat.le_of_ble_eq_true rfl) rfl ?_
      refine U_istore (n := 130) (lv2 := [(8, .int v24), (0, .ref p0), (2, .int p2), (3, .int p3), (4, .long v22), (6, .int x6), (7, .int x7)]) C dX4_scatter_128 (by decide) rfl rfl ?_
      refine U_iload (n := 132) 5 C dX4_scatter_130 rfl rfl ?_
      refine U_bipush (n := 134) (-100 : Int32) C dX4_scatter_132 kbipush_m100 rfl ?_
      refine U_join1 (fun v26 => U g Γ 11 Q 0 0 149 [(0, .ref p0), (2, .int p2), (3, .int p3), (4, .long v22), (6, .int x6), (7, .int x7), (8, .int v24)] [.int v26] h23) hf (fun v26 hf => ?_) (fun v26 hf J28 => ?_)
      · skip
        refine U_istore (n := 151) (lv2 := [(9, .int v26), (0, .ref p0), (2, .int p2), (3, .int p3), (4, .long v22), (6, .int x6), (7, .int x7), (8, .int v24)]) C dX4_scatter_149 (by decide) rfl rfl ?_
        refine U_iload (n := 153) 0 C dX4_scatter_151 rfl rfl ?_
        refine U_join1 (fun v31 => U g Γ 11 Q 0 0 163 [(0, .ref p0), (2, .int p2), (3, .int p3), (4, .long v22), (7, .int x7), (9, .int v26)] [.int v31] h23) hf (fun v31 hf => ?_) (fun v31 hf J33 => ?_)
        · skip
          refine U_istore (n := 165) (lv2 := [(6, .int v31), (0, .ref p0), (2, .int p2), (3, .int p3), (4, .long v22), (7, .int x7), (9, .int v26)]) C dX4_scatter_163 (by decide) rfl rfl ?_
          refine U_iconst (n := 166) (0 : Int32) C dX4_scatter_165 kiconst_0 rfl ?_
          refine U_istore (n := 168) (lv2 := [(10, .int (0 : Int32)), (6, .int v31), (0, .ref p0), (2, .int p2), (3, .int p3), (4, .long v22), (7, .int x7), (9, .int v26)]) C dX4_scatter_166 (by decide) rfl rfl ?_
          refine U_join1 (fun h47 => U g Γ 11 Q 0 0 214 [(0, .ref p0), (2, .int p2), (3, .int p3), (4, .long v22), (6, .int v31), (7, .int x7)] [] h47) hf (fun h47 hf => ?_) (fun h47 hf J => U_lv [2, 3, 4, 5, 1, 6, 7, 0] rfl (L_X4_scatter_168 C hf J))
          refine U_iinc (n := 217) (v := (x7 + 1)) (lv2 := [(7, .int (x7 + 1)), (0, .ref p0), (2, .int p2), (3, .int p3), (4, .long v22), (6, .int v31)]) 5 C dX4_scatter_214 rfl rfl (by decide) rfl rfl ?_
          refine U_goto (n := 0) (tgt := 51) C dX4_scatter_217 (by decide) ?_
          exact U_lv [1, 2, 3, 4, 5, 0] rfl (ih hf J0)
        · skip
          refine U_ifeq (tgt := 161) (n := 156) C dX4_scatter_153 (by decide) rfl (fun c30 => ?_) (fun c30 => ?_)
          · replace hf := (if_pos c30).symm.trans hf
            refine U_iload (n := 163) 5 C dX4_scatter_161 rfl rfl ?_
            have hr := Option.some.inj hf
            subst hr
            exact U_lv [1, 2, 3, 4, 6, 0] rfl J33
          · replace hf := (if_neg c30).symm.trans hf
            refine U_iload (n := 158) 7 C dX4_scatter_156 rfl rfl ?_
            refine U_goto (n := 0) (tgt := 163) C dX4_scatter_158 (by decide) ?_
            have hr := Option.some.inj hf
            subst hr
            exact U_lv [1, 2, 3, 4, 6, 0] rfl J33
      · skip
        refine U_iceq (tgt := 144) (n := 137) C dX4_scatter_134 (by decide) rfl (fun c25 => ?_) (fun c25 => ?_)
        · replace hf := (if_pos c25).symm.trans hf
          refine U_iconst (n := 145) (1 : Int32) C dX4_scatter_144 kiconst_1 rfl ?_
          refine U_goto (n := 0) (tgt := 149) C dX4_scatter_145 (by decide) ?_
          have hr := Option.some.inj hf
          subst hr
          exact U_lv [1, 2, 3, 4, 5, 6, 0] rfl J28
        · replace hf := (if_neg c25).symm.trans hf
          refine U_iload (n := 139) 0 C dX4_scatter_137 rfl rfl ?_
          refine U_iload (n := 141) 5 C dX4_scatter_139 rfl rfl ?_
          refine U_icge (tgt := 148) (n := 144) C dX4_scatter_141 (by decide) rfl (fun c48 => ?_) (fun c48 => ?_)
          · replace hf := (if_pos c48).symm.trans hf
            refine U_iconst (n := 149) (0 : Int32) C dX4_scatter_148 kiconst_0 rfl ?_
            have hr := Option.some.inj hf
            subst hr
            exact U_lv [1, 2, 3, 4, 5, 6, 0] rfl J28
          · replace hf := (if_neg c48).symm.trans hf
            refine U_iconst (n := 145) (1 : Int32) C dX4_scatter_144 kiconst_1 rfl ?_
            refine U_goto (n := 0) (tgt := 149) C dX4_scatter_145 (by decide) ?_
            have hr := Option.some.inj hf
            subst hr
            exact U_lv [1, 2, 3, 4, 5, 6, 0] rfl J28
set_option maxHeartbeats 2000000 in
set_option maxRecDepth 20000 in
theorem L_X4_scatter_223 {g : GT} {Γ : CT} {Q : State → Prop} {mc ms : Nat} (C : Cx g Γ cX4_scatter RX4 "scatter" 11 (some .int) 9 mc ms) {p0 : Nat} {p6 : Int32} : ∀ {fuel : Nat} {x7 : Int32} {h : Hp} {hy : Hp}, l_X4_scatter_223 p0 fuel x7 h = some hy → U g Γ 11 Q 0 0 254 [(0, .ref p0), (6, .int p6)] [] hy → U g Γ 11 Q 0 0 223 [(0, .ref p0), (6, .int p6), (7, .int x7)] [] h := by
  intro fuel
  induction fuel with
  | zero =>
    intro x7 h hy hf J0
    simp only [l_X4_scatter_223, reduceCtorEq] at hf
  | succ fuel ih =>
    intro x7 h hy hf J0
    rw [l_X4_scatter_223] at hf
    refine U_iload (n := 225) 2 C dX4_scatter_223 rfl rfl ?_
    refine U_bipush (n := 227) (16 : Int32) C dX4_scatter_225 kbipush_16 rfl ?_
    refine U_icge (tgt := 254) (n := 230) C dX4_scatter_227 (by decide) rfl (fun c51 => ?_) (fun c51 => ?_)
    · replace hf := (if_pos c51).symm.trans hf
      have hr := Option.some.inj hf
      subst hr
      exact U_lv [0, 1] rfl J0
    · replace hf := (if_neg c51).symm.trans hf
      refine U_aload_n (n := 231) 0 C dX4_scatter_230 rfl rfl rfl ?_
      refine gf_RX4_7 (n := 234) C dX4_scatter_231 hf rfl (fun v52 hf => ?_)
      refine U_sipush (n := 237) (227 : Int32) C dX4_scatter_234 ksipush_227 rfl ?_
      refine U_iload (n := 239) 2 C dX4_scatter_237 rfl rfl ?_
      refine U_iadd (n := 240) C dX4_scatter_239 rfl ?_
      refine U_aload_n (n := 241) 0 C dX4_scatter_240 rfl rfl rfl ?_
      refine gf_RX4_50 (n := 244) C dX4_scatter_241 hf rfl (fun v53 hf => ?_)
      refine U_iload (n := 246) 2 C dX4_scatter_244 rfl rfl ?_
      refine U_iald (n := 247) C dX4_scatter_246 hf rfl (fun v54 hf => ?_)
      refine U_iast (n := 248) C dX4_scatter_247 hf rfl (fun h55 hf => ?_)
      refine U_iinc (n := 251) (v := (x7 + 1)) (lv2 := [(7, .int (x7 + 1)), (0, .ref p0), (6, .int p6)]) 2 C dX4_scatter_248 rfl rfl (by decide) rfl rfl ?_
      refine U_goto (n := 0) (tgt := 223) C dX4_scatter_251 (by decide) ?_
      exact U_lv [1, 2, 0] rfl (ih hf J0)
theorem rc_X4_scatter {o : Nat} {a1 : Int32} {a2 : Int32} {a3 : Int32} {h : Hp} {z} (hf : f_X4_scatter o a1 a2 a3 h = some z) : rc 4 h o = some () := by
  unfold f_X4_scatter at hf
  exact (bsome hf).choose_spec.1
set_option maxHeartbeats 2000000 in
set_option maxRecDepth 20000 in
theorem M_X4_scatter {g : GT} {o : Nat} {a1 : Int32} {a2 : Int32} {a3 : Int32} {h : Hp} {r : Int32} {h2 : Hp} (hf : f_X4_scatter o a1 a2 a3 h = some (r, h2)) : CM g yX4_scatter cX4_scatter 11 (some .int) 9 0 0 [.ref o, .int a1, .int a2, .int a3] h (.inr (some (.int r))) h2 := by
  refine CM_of rfl (fun _ => Nat.le_of_ble_eq_true rfl) (fun Γ C hn0 => ?_)
  have C : Cx g Γ cX4_scatter RX4 "scatter" 11 (some .int) 9 0 0 := C
  generalize hQ : Qe g Γ (.inr (some (.int r))) h2 0 0 = Q
  show U g Γ 11 Q 0 0 0 [(0, .ref o), (1, .int a1), (2, .int a2), (3, .int a3)] [] h
  unfold f_X4_scatter at hf
  replace hf := (bsome hf).choose_spec.2
  refine U_iload_n (n := 1) 1 C dX4_scatter_0 rfl rfl ?_
  refine U_iconst (n := 2) (0 : Int32) C dX4_scatter_1 kiconst_0 rfl ?_
  refine U_ldc (n := 4) (999999 : Int32) C dX4_scatter_2 ct_RX4_226 rfl ?_
  obtain ⟨v1, ev1, hf⟩ := bsome hf
  refine cv_RX4_91 (n := 7) C dX4_scatter_4 (av := [.int a1, .int (0 : Int32), .int (999999 : Int32)]) rfl (M_X4_in ev1) (Nat.le_of_ble_eq_true rfl) (Nat.zero_le _) (Nat.zero_le _) (Nat.le_of_ble_eq_true rfl) rfl ?_
  refine U_ifeq (tgt := 30) (n := 10) C dX4_scatter_7 (by decide) rfl (fun c2 => ?_) (fun c2 => ?_)
  · replace hf := (if_pos c2).symm.trans hf
    refine U_aload_n (n := 31) 0 C dX4_scatter_30 rfl rfl rfl ?_
    refine U_iconst (n := 32) (1 : Int32) C dX4_scatter_31 kiconst_1 rfl ?_
    obtain ⟨v3, h4, ev3, hf⟩ := bsome2 hf
    refine cv_RX4_113 (n := 35) C dX4_scatter_32 (av := [.int (1 : Int32)]) rfl (rc_X4_fails ev3) (M_X4_fails ev3) (Nat.le_of_ble_eq_true rfl) (Nat.zero_le _) (Nat.zero_le _) (Nat.le_of_ble_eq_true rfl) rfl ?_
    obtain ⟨hr1, hr2⟩ := Prod.mk.inj (Option.some.inj hf)
    subst hr1; subst hr2
    subst hQ
    exact U_iret C dX4_scatter_35 (Nat.le_refl 0) (Nat.le_refl 0)
  · replace hf := (if_neg c2).symm.trans hf
    refine U_iload_n (n := 11) 2 C dX4_scatter_10 rfl rfl ?_
    refine U_iconst (n := 12) (1 : Int32) C dX4_scatter_11 kiconst_1 rfl ?_
    refine U_bipush (n := 14) (50 : Int32) C dX4_scatter_12 kbipush_50 rfl ?_
    obtain ⟨v5, ev5, hf⟩ := bsome hf
    refine cv_RX4_91 (n := 17) C dX4_scatter_14 (av := [.int a2, .int (1 : Int32), .int (50 : Int32)]) rfl (M_X4_in ev5) (Nat.le_of_ble_eq_true rfl) (Nat.zero_le _) (Nat.zero_le _) (Nat.le_of_ble_eq_true rfl) rfl ?_
    refine U_ifeq (tgt := 30) (n := 20) C dX4_scatter_17 (by decide) rfl (fun c6 => ?_) (fun c6 => ?_)
    · replace hf := (if_pos c6).symm.trans hf
      refine U_aload_n (n := 31) 0 C dX4_scatter_30 rfl rfl rfl ?_
      refine U_iconst (n := 32) (1 : Int32) C dX4_scatter_31 kiconst_1 rfl ?_
      obtain ⟨v7, h8, ev7, hf⟩ := bsome2 hf
      refine cv_RX4_113 (n := 35) C dX4_scatter_32 (av := [.int (1 : Int32)]) rfl (rc_X4_fails ev7) (M_X4_fails ev7) (Nat.le_of_ble_eq_true rfl) (Nat.zero_le _) (Nat.zero_le _) (Nat.le_of_ble_eq_true rfl) rfl ?_
      obtain ⟨hr1, hr2⟩ := Prod.mk.inj (Option.some.inj hf)
      subst hr1; subst hr2
      subst hQ
      exact U_iret C dX4_scatter_35 (Nat.le_refl 0) (Nat.le_refl 0)
    · replace hf := (if_neg c6).symm.trans hf
      refine U_iload_n (n := 21) 3 C dX4_scatter_20 rfl rfl ?_
      refine U_iconst (n := 22) (1 : Int32) C dX4_scatter_21 kiconst_1 rfl ?_
      refine U_bipush (n := 24) (50 : Int32) C dX4_scatter_22 kbipush_50 rfl ?_
      obtain ⟨v9, ev9, hf⟩ := bsome hf
      refine cv_RX4_91 (n := 27) C dX4_scatter_24 (av := [.int a3, .int (1 : Int32), .int (50 : Int32)]) rfl (M_X4_in ev9) (Nat.le_of_ble_eq_true rfl) (Nat.zero_le _) (Nat.zero_le _) (Nat.le_of_ble_eq_true rfl) rfl ?_
      refine U_ifne (tgt := 36) (n := 30) C dX4_scatter_27 (by decide) rfl (fun c10 => ?_) (fun c10 => ?_)
      · replace hf := (if_pos c10).symm.trans hf
        refine U_aload_n (n := 31) 0 C dX4_scatter_30 rfl rfl rfl ?_
        refine U_iconst (n := 32) (1 : Int32) C dX4_scatter_31 kiconst_1 rfl ?_
        obtain ⟨v11, h12, ev11, hf⟩ := bsome2 hf
        refine cv_RX4_113 (n := 35) C dX4_scatter_32 (av := [.int (1 : Int32)]) rfl (rc_X4_fails ev11) (M_X4_fails ev11) (Nat.le_of_ble_eq_true rfl) (Nat.zero_le _) (Nat.zero_le _) (Nat.le_of_ble_eq_true rfl) rfl ?_
        obtain ⟨hr1, hr2⟩ := Prod.mk.inj (Option.some.inj hf)
        subst hr1; subst hr2
        subst hQ
        exact U_iret C dX4_scatter_35 (Nat.le_refl 0) (Nat.le_refl 0)
      · replace hf := (if_neg c10).symm.trans hf
        refine U_aload_n (n := 37) 0 C dX4_scatter_36 rfl rfl rfl ?_
        obtain ⟨h14, ev13, hf⟩ := bsome hf
        refine cv_RX4_116 (n := 40) C dX4_scatter_37 (av := []) rfl (rc_X4_hold ev13) (M_X4_hold ev13) (Nat.le_of_ble_eq_true rfl) (Nat.zero_le _) (Nat.zero_le _) (Nat.le_of_ble_eq_true rfl) rfl ?_
        refine U_iload_n (n := 41) 1 C dX4_scatter_40 rfl rfl ?_
        refine U_i2l (n := 42) C dX4_scatter_41 rfl ?_
        refine U_lstore (n := 44) (lv2 := [(4, .long (a1).toInt64), (0, .ref o), (1, .int a1), (2, .int a2), (3, .int a3)]) C dX4_scatter_42 (by decide) rfl rfl ?_
        refine U_bipush (n := 46) (-100 : Int32) C dX4_scatter_44 kbipush_m100 rfl ?_
        refine U_istore (n := 48) (lv2 := [(6, .int (-100 : Int32)), (4, .long (a1).toInt64), (0, .ref o), (1, .int a1), (2, .int a2), (3, .int a3)]) C dX4_scatter_46 (by decide) rfl rfl ?_
        refine U_iconst (n := 49) (0 : Int32) C dX4_scatter_48 kiconst_0 rfl ?_
        refine U_istore (n := 51) (lv2 := [(7, .int (0 : Int32)), (6, .int (-100 : Int32)), (4, .long (a1).toInt64), (0, .ref o), (1, .int a1), (2, .int a2), (3, .int a3)]) C dX4_scatter_49 (by decide) rfl rfl ?_
        refine U_join2 (fun v49 h50 => U g Γ 11 Q 0 0 220 [(0, .ref o), (6, .int v49)] [] h50) hf (fun v49 h50 hf => ?_) (fun v49 h50 hf J => U_lv [3, 5, 6, 2, 1, 0] rfl (L_X4_scatter_51 C hf J))
        refine U_iconst (n := 221) (0 : Int32) C dX4_scatter_220 kiconst_0 rfl ?_
        refine U_istore (n := 223) (lv2 := [(7, .int (0 : Int32)), (0, .ref o), (6, .int v49)]) C dX4_scatter_221 (by decide) rfl rfl ?_
        refine U_join1 (fun h56 => U g Γ 11 Q 0 0 254 [(0, .ref o), (6, .int v49)] [] h56) hf (fun h56 hf => ?_) (fun h56 hf J => U_lv [1, 2, 0] rfl (L_X4_scatter_223 C hf J))
        refine U_aload_n (n := 255) 0 C dX4_scatter_254 rfl rfl rfl ?_
        refine U_iload (n := 257) 1 C dX4_scatter_255 rfl rfl ?_
        obtain ⟨v57, h58, ev57, hf⟩ := bsome2 hf
        refine cv_RX4_119 (n := 260) C dX4_scatter_257 (av := [.int v49]) rfl (rc_X4_ends ev57) (M_X4_ends ev57) (Nat.le_of_ble_eq_true rfl) (Nat.zero_le _) (Nat.zero_le _) (Nat.le_of_ble_eq_true rfl) rfl ?_
        obtain ⟨hr1, hr2⟩ := Prod.mk.inj (Option.some.inj hf)
        subst hr1; subst hr2
        subst hQ
        exact U_iret C dX4_scatter_260 (Nat.le_refl 0) (Nat.le_refl 0)
def f_X4_type (o : Nat) (a1 : Int32) (h : Hp) : Option (Int32 × Hp) :=
  (rc 4 h o).bind fun _ =>
  (f_X4_in a1 (0 : Int32) (127 : Int32)).bind fun v1 =>
  if v1 = 0 then (
    bind2 (f_X4_fails o (1 : Int32) h) fun v3 h4 =>
    some ((v3, h4))
  ) else (
    (fI 4 5 h o).bind fun v5 =>
    if v5 = (120 : Int32) then (
      bind2 (f_X4_fails o (2 : Int32) h) fun v7 h8 =>
      some ((v7, h8))
    ) else (
      (fR 4 4 h o).bind fun v9 =>
      (fI 4 5 h o).bind fun v10 =>
      (wI h v9 v10 a1).bind fun h11 =>
      (fI 4 5 h11 o).bind fun v12 =>
      (sF 4 5 (.int (v12 + (1 : Int32))) h11 o).bind fun h13 =>
      (fI 4 5 h13 o).bind fun v14 =>
      bind2 (f_X4_tells o v14 h13) fun v15 h16 =>
      some ((v15, h16))
    )
  )
theorem rc_X4_type {o : Nat} {a1 : Int32} {h : Hp} {z} (hf : f_X4_type o a1 h = some z) : rc 4 h o = some () := by
  unfold f_X4_type at hf
  exact (bsome hf).choose_spec.1
set_option maxHeartbeats 2000000 in
set_option maxRecDepth 20000 in
theorem M_X4_type {g : GT} {o : Nat} {a1 : Int32} {h : Hp} {r : Int32} {h2 : Hp} (hf : f_X4_type o a1 h = some (r, h2)) : CM g yX4_type cX4_type 2 (some .int) 7 0 0 [.ref o, .int a1] h (.inr (some (.int r))) h2 := by
  refine CM_of rfl (fun _ => Nat.le_of_ble_eq_true rfl) (fun Γ C hn0 => ?_)
  have C : Cx g Γ cX4_type RX4 "type" 2 (some .int) 7 0 0 := C
  generalize hQ : Qe g Γ (.inr (some (.int r))) h2 0 0 = Q
  show U g Γ 2 Q 0 0 0 [(0, .ref o), (1, .int a1)] [] h
  unfold f_X4_type at hf
  replace hf := (bsome hf).choose_spec.2
  refine U_iload_n (n := 1) 1 C dX4_type_0 rfl rfl ?_
  refine U_iconst (n := 2) (0 : Int32) C dX4_type_1 kiconst_0 rfl ?_
  refine U_bipush (n := 4) (127 : Int32) C dX4_type_2 kbipush_127 rfl ?_
  obtain ⟨v1, ev1, hf⟩ := bsome hf
  refine cv_RX4_91 (n := 7) C dX4_type_4 (av := [.int a1, .int (0 : Int32), .int (127 : Int32)]) rfl (M_X4_in ev1) (Nat.le_of_ble_eq_true rfl) (Nat.zero_le _) (Nat.zero_le _) (Nat.le_of_ble_eq_true rfl) rfl ?_
  refine U_ifne (tgt := 16) (n := 10) C dX4_type_7 (by decide) rfl (fun c2 => ?_) (fun c2 => ?_)
  · replace hf := (if_pos c2).symm.trans hf
    refine U_aload_n (n := 11) 0 C dX4_type_10 rfl rfl rfl ?_
    refine U_iconst (n := 12) (1 : Int32) C dX4_type_11 kiconst_1 rfl ?_
    obtain ⟨v3, h4, ev3, hf⟩ := bsome2 hf
    refine cv_RX4_113 (n := 15) C dX4_type_12 (av := [.int (1 : Int32)]) rfl (rc_X4_fails ev3) (M_X4_fails ev3) (Nat.le_of_ble_eq_true rfl) (Nat.zero_le _) (Nat.zero_le _) (Nat.le_of_ble_eq_true rfl) rfl ?_
    obtain ⟨hr1, hr2⟩ := Prod.mk.inj (Option.some.inj hf)
    subst hr1; subst hr2
    subst hQ
    exact U_iret C dX4_type_15 (Nat.le_refl 0) (Nat.le_refl 0)
  · replace hf := (if_neg c2).symm.trans hf
    refine U_aload_n (n := 17) 0 C dX4_type_16 rfl rfl rfl ?_
    refine gf_RX4_237 (n := 20) C dX4_type_17 hf rfl (fun v5 hf => ?_)
    refine U_bipush (n := 22) (120 : Int32) C dX4_type_20 kbipush_120 rfl ?_
    refine U_icne (tgt := 31) (n := 25) C dX4_type_22 (by decide) rfl (fun c6 => ?_) (fun c6 => ?_)
    · replace hf := (if_pos c6).symm.trans hf
      refine U_aload_n (n := 26) 0 C dX4_type_25 rfl rfl rfl ?_
      refine U_iconst (n := 27) (2 : Int32) C dX4_type_26 kiconst_2 rfl ?_
      obtain ⟨v7, h8, ev7, hf⟩ := bsome2 hf
      refine cv_RX4_113 (n := 30) C dX4_type_27 (av := [.int (2 : Int32)]) rfl (rc_X4_fails ev7) (M_X4_fails ev7) (Nat.le_of_ble_eq_true rfl) (Nat.zero_le _) (Nat.zero_le _) (Nat.le_of_ble_eq_true rfl) rfl ?_
      obtain ⟨hr1, hr2⟩ := Prod.mk.inj (Option.some.inj hf)
      subst hr1; subst hr2
      subst hQ
      exact U_iret C dX4_type_30 (Nat.le_refl 0) (Nat.le_refl 0)
    · replace hf := (if_neg c6).symm.trans hf
      refine U_aload_n (n := 32) 0 C dX4_type_31 rfl rfl rfl ?_
      refine gf_RX4_19 (n := 35) C dX4_type_32 hf rfl (fun v9 hf => ?_)
      refine U_aload_n (n := 36) 0 C dX4_type_35 rfl rfl rfl ?_
      refine gf_RX4_237 (n := 39) C dX4_type_36 hf rfl (fun v10 hf => ?_)
      refine U_iload_n (n := 40) 1 C dX4_type_39 rfl rfl ?_
      refine U_iast (n := 41) C dX4_type_40 hf rfl (fun h11 hf => ?_)
      refine U_aload_n (n := 42) 0 C dX4_type_41 rfl rfl rfl ?_
      refine U_dup (n := 43) C dX4_type_42 rfl rfl ?_
      refine gf_RX4_237 (n := 46) C dX4_type_43 hf rfl (fun v12 hf => ?_)
      refine U_iconst (n := 47) (1 : Int32) C dX4_type_46 kiconst_1 rfl ?_
      refine U_iadd (n := 48) C dX4_type_47 rfl ?_
      refine pf_RX4_237 (n := 51) C dX4_type_48 hf rfl (fun h13 hf => ?_)
      refine U_aload_n (n := 52) 0 C dX4_type_51 rfl rfl rfl ?_
      refine U_aload_n (n := 53) 0 C dX4_type_52 rfl rfl rfl ?_
      refine gf_RX4_237 (n := 56) C dX4_type_53 hf rfl (fun v14 hf => ?_)
      obtain ⟨v15, h16, ev15, hf⟩ := bsome2 hf
      refine cv_RX4_67 (n := 59) C dX4_type_56 (av := [.int v14]) rfl (rc_X4_tells ev15) (M_X4_tells ev15) (Nat.le_of_ble_eq_true rfl) (Nat.zero_le _) (Nat.zero_le _) (Nat.le_of_ble_eq_true rfl) rfl ?_
      obtain ⟨hr1, hr2⟩ := Prod.mk.inj (Option.some.inj hf)
      subst hr1; subst hr2
      subst hQ
      exact U_iret C dX4_type_59 (Nat.le_refl 0) (Nat.le_refl 0)
def f_X4_clearScript (o : Nat) (h : Hp) : Option (Int32 × Hp) :=
  (rc 4 h o).bind fun _ =>
  (fI 4 5 h o).bind fun v1 =>
  (sF 4 5 (.int (0 : Int32)) h o).bind fun h2 =>
  bind2 (f_X4_tells o v1 h2) fun v3 h4 =>
  some ((v3, h4))
theorem rc_X4_clearScript {o : Nat} {h : Hp} {z} (hf : f_X4_clearScript o h = some z) : rc 4 h o = some () := by
  unfold f_X4_clearScript at hf
  exact (bsome hf).choose_spec.1
set_option maxHeartbeats 2000000 in
set_option maxRecDepth 20000 in
theorem M_X4_clearScript {g : GT} {o : Nat} {h : Hp} {r : Int32} {h2 : Hp} (hf : f_X4_clearScript o h = some (r, h2)) : CM g yX4_clearScript cX4_clearScript 2 (some .int) 7 0 0 [.ref o] h (.inr (some (.int r))) h2 := by
  refine CM_of rfl (fun _ => Nat.le_of_ble_eq_true rfl) (fun Γ C hn0 => ?_)
  have C : Cx g Γ cX4_clearScript RX4 "clearScript" 2 (some .int) 7 0 0 := C
  generalize hQ : Qe g Γ (.inr (some (.int r))) h2 0 0 = Q
  show U g Γ 2 Q 0 0 0 [(0, .ref o)] [] h
  unfold f_X4_clearScript at hf
  replace hf := (bsome hf).choose_spec.2
  refine U_aload_n (n := 1) 0 C dX4_clearScript_0 rfl rfl rfl ?_
  refine gf_RX4_237 (n := 4) C dX4_clearScript_1 hf rfl (fun v1 hf => ?_)
  refine U_istore_n (n := 5) (lv2 := [(1, .int v1), (0, .ref o)]) C dX4_clearScript_4 (by decide) rfl rfl ?_
  refine U_aload_n (n := 6) 1 C dX4_clearScript_5 rfl rfl rfl ?_
  refine U_iconst (n := 7) (0 : Int32) C dX4_clearScript_6 kiconst_0 rfl ?_
  refine pf_RX4_237 (n := 10) C dX4_clearScript_7 hf rfl (fun h2 hf => ?_)
  refine U_aload_n (n := 11) 1 C dX4_clearScript_10 rfl rfl rfl ?_
  refine U_iload_n (n := 12) 0 C dX4_clearScript_11 rfl rfl ?_
  obtain ⟨v3, h4, ev3, hf⟩ := bsome2 hf
  refine cv_RX4_67 (n := 15) C dX4_clearScript_12 (av := [.int v1]) rfl (rc_X4_tells ev3) (M_X4_tells ev3) (Nat.le_of_ble_eq_true rfl) (Nat.zero_le _) (Nat.zero_le _) (Nat.le_of_ble_eq_true rfl) rfl ?_
  obtain ⟨hr1, hr2⟩ := Prod.mk.inj (Option.some.inj hf)
  subst hr1; subst hr2
  subst hQ
  exact U_iret C dX4_clearScript_15 (Nat.le_refl 0) (Nat.le_refl 0)
def f_X4_isAt (o : Nat) (a1 : Int32) (a2 : Int32) (h : Hp) : Option Int32 :=
  (rc 4 h o).bind fun _ =>
  (fI 4 20 h o).bind fun v1 =>
  (fI 4 5 h o).bind fun v2 =>
  if v2 ≤ v1 then (
    some ((0 : Int32))
  ) else (
    (fR 4 4 h o).bind fun v4 =>
    (fI 4 20 h o).bind fun v5 =>
    (aI h v4 v5).bind fun v6 =>
    (f_X4_in v6 a1 a2).bind fun v7 =>
    if v7 = 0 then (
      some ((0 : Int32))
    ) else (
      some ((1 : Int32))
    )
  )
theorem rc_X4_isAt {o : Nat} {a1 : Int32} {a2 : Int32} {h : Hp} {z} (hf : f_X4_isAt o a1 a2 h = some z) : rc 4 h o = some () := by
  unfold f_X4_isAt at hf
  exact (bsome hf).choose_spec.1
set_option maxHeartbeats 2000000 in
set_option maxRecDepth 20000 in
theorem M_X4_isAt {g : GT} {o : Nat} {a1 : Int32} {a2 : Int32} {h : Hp} {r : Int32} (hf : f_X4_isAt o a1 a2 h = some r) : CM g yX4_isAt cX4_isAt 3 (some .boolean) 7 0 0 [.ref o, .int a1, .int a2] h (.inr (some (.int r))) h := by
  refine CM_of rfl (fun _ => Nat.le_of_ble_eq_true rfl) (fun Γ C hn0 => ?_)
  have C : Cx g Γ cX4_isAt RX4 "isAt" 3 (some .boolean) 7 0 0 := C
  generalize hQ : Qe g Γ (.inr (some (.int r))) h 0 0 = Q
  show U g Γ 3 Q 0 0 0 [(0, .ref o), (1, .int a1), (2, .int a2)] [] h
  unfold f_X4_isAt at hf
  replace hf := (bsome hf).choose_spec.2
  refine U_aload_n (n := 1) 0 C dX4_isAt_0 rfl rfl rfl ?_
  refine gf_RX4_240 (n := 4) C dX4_isAt_1 hf rfl (fun v1 hf => ?_)
  refine U_aload_n (n := 5) 0 C dX4_isAt_4 rfl rfl rfl ?_
  refine gf_RX4_237 (n := 8) C dX4_isAt_5 hf rfl (fun v2 hf => ?_)
  refine U_icge (tgt := 32) (n := 11) C dX4_isAt_8 (by decide) rfl (fun c3 => ?_) (fun c3 => ?_)
  · replace hf := (if_pos c3).symm.trans hf
    refine U_iconst (n := 33) (0 : Int32) C dX4_isAt_32 kiconst_0 rfl ?_
    have hr := (Option.some.inj hf)
    subst hr
    subst hQ
    exact U_zret C dX4_isAt_33 (Or.inl rfl) (Nat.le_refl 0) (Nat.le_refl 0)
  · replace hf := (if_neg c3).symm.trans hf
    refine U_aload_n (n := 12) 0 C dX4_isAt_11 rfl rfl rfl ?_
    refine gf_RX4_19 (n := 15) C dX4_isAt_12 hf rfl (fun v4 hf => ?_)
    refine U_aload_n (n := 16) 0 C dX4_isAt_15 rfl rfl rfl ?_
    refine gf_RX4_240 (n := 19) C dX4_isAt_16 hf rfl (fun v5 hf => ?_)
    refine U_iald (n := 20) C dX4_isAt_19 hf rfl (fun v6 hf => ?_)
    refine U_iload_n (n := 21) 1 C dX4_isAt_20 rfl rfl ?_
    refine U_iload_n (n := 22) 2 C dX4_isAt_21 rfl rfl ?_
    obtain ⟨v7, ev7, hf⟩ := bsome hf
    refine cv_RX4_91 (n := 25) C dX4_isAt_22 (av := [.int v6, .int a1, .int a2]) rfl (M_X4_in ev7) (Nat.le_of_ble_eq_true rfl) (Nat.zero_le _) (Nat.zero_le _) (Nat.le_of_ble_eq_true rfl) rfl ?_
    refine U_ifeq (tgt := 32) (n := 28) C dX4_isAt_25 (by decide) rfl (fun c8 => ?_) (fun c8 => ?_)
    · replace hf := (if_pos c8).symm.trans hf
      refine U_iconst (n := 33) (0 : Int32) C dX4_isAt_32 kiconst_0 rfl ?_
      have hr := (Option.some.inj hf)
      subst hr
      subst hQ
      exact U_zret C dX4_isAt_33 (Or.inl rfl) (Nat.le_refl 0) (Nat.le_refl 0)
    · replace hf := (if_neg c8).symm.trans hf
      refine U_iconst (n := 29) (1 : Int32) C dX4_isAt_28 kiconst_1 rfl ?_
      refine U_goto (n := 0) (tgt := 33) C dX4_isAt_29 (by decide) ?_
      have hr := (Option.some.inj hf)
      subst hr
      subst hQ
      exact U_zret C dX4_isAt_33 (Or.inr rfl) (Nat.le_refl 0) (Nat.le_refl 0)
def l_X4_skips_5 (p0 : Nat) : Nat → Hp → Option Hp
  | 0, _ => none
  | fuel + 1, h =>
    (f_X4_isAt p0 (32 : Int32) (32 : Int32) h).bind fun v2 =>
    if v2 = 0 then (
      some h
    ) else (
      (fI 4 20 h p0).bind fun v4 =>
      (sF 4 20 (.int (v4 + (1 : Int32))) h p0).bind fun h5 =>
      l_X4_skips_5 p0 fuel h5
    )
def f_X4_skips (o : Nat) (h : Hp) : Option (Int32 × Hp) :=
  (rc 4 h o).bind fun _ =>
  (fI 4 20 h o).bind fun v1 =>
  (l_X4_skips_5 o FU h).bind fun h6 =>
  (fI 4 20 h6 o).bind fun v7 =>
  if v7 ≤ v1 then (
    some (((0 : Int32), h6))
  ) else (
    some (((1 : Int32), h6))
  )
set_option maxHeartbeats 2000000 in
set_option maxRecDepth 20000 in
theorem L_X4_skips_5 {g : GT} {Γ : CT} {Q : State → Prop} {mc ms : Nat} (C : Cx g Γ cX4_skips RX4 "skips" 2 (some .boolean) 8 mc ms) {p0 : Nat} {p1 : Int32} : ∀ {fuel : Nat} {h : Hp} {hy : Hp}, l_X4_skips_5 p0 fuel h = some hy → U g Γ 2 Q 0 0 29 [(0, .ref p0), (1, .int p1)] [] hy → U g Γ 2 Q 0 0 5 [(0, .ref p0), (1, .int p1)] [] h := by
  intro fuel
  induction fuel with
  | zero =>
    intro h hy hf J0
    simp only [l_X4_skips_5, reduceCtorEq] at hf
  | succ fuel ih =>
    intro h hy hf J0
    rw [l_X4_skips_5] at hf
    refine U_aload_n (n := 6) 0 C dX4_skips_5 rfl rfl rfl ?_
    refine U_bipush (n := 8) (32 : Int32) C dX4_skips_6 kbipush_32 rfl ?_
    refine U_bipush (n := 10) (32 : Int32) C dX4_skips_8 kbipush_32 rfl ?_
    obtain ⟨v2, ev2, hf⟩ := bsome hf
    refine cv_RX4_243 (n := 13) C dX4_skips_10 (av := [.int (32 : Int32), .int (32 : Int32)]) rfl (rc_X4_isAt ev2) (M_X4_isAt ev2) (Nat.le_of_ble_eq_true rfl) (Nat.zero_le _) (Nat.zero_le _) (Nat.le_of_ble_eq_true rfl) rfl ?_
    refine U_ifeq (tgt := 29) (n := 16) C dX4_skips_13 (by decide) rfl (fun c3 => ?_) (fun c3 => ?_)
    · replace hf := (if_pos c3).symm.trans hf
      have hr := Option.some.inj hf
      subst hr
      exact U_lv [0, 1] rfl J0
    · replace hf := (if_neg c3).symm.trans hf
      refine U_aload_n (n := 17) 0 C dX4_skips_16 rfl rfl rfl ?_
      refine U_dup (n := 18) C dX4_skips_17 rfl rfl ?_
      refine gf_RX4_240 (n := 21) C dX4_skips_18 hf rfl (fun v4 hf => ?_)
      refine U_iconst (n := 22) (1 : Int32) C dX4_skips_21 kiconst_1 rfl ?_
      refine U_iadd (n := 23) C dX4_skips_22 rfl ?_
      refine pf_RX4_240 (n := 26) C dX4_skips_23 hf rfl (fun h5 hf => ?_)
      refine U_goto (n := 0) (tgt := 5) C dX4_skips_26 (by decide) ?_
      exact U_lv [0, 1] rfl (ih hf J0)
theorem rc_X4_skips {o : Nat} {h : Hp} {z} (hf : f_X4_skips o h = some z) : rc 4 h o = some () := by
  unfold f_X4_skips at hf
  exact (bsome hf).choose_spec.1
set_option maxHeartbeats 2000000 in
set_option maxRecDepth 20000 in
theorem M_X4_skips {g : GT} {o : Nat} {h : Hp} {r : Int32} {h2 : Hp} (hf : f_X4_skips o h = some (r, h2)) : CM g yX4_skips cX4_skips 2 (some .boolean) 8 0 0 [.ref o] h (.inr (some (.int r))) h2 := by
  refine CM_of rfl (fun _ => Nat.le_of_ble_eq_true rfl) (fun Γ C hn0 => ?_)
  have C : Cx g Γ cX4_skips RX4 "skips" 2 (some .boolean) 8 0 0 := C
  generalize hQ : Qe g Γ (.inr (some (.int r))) h2 0 0 = Q
  show U g Γ 2 Q 0 0 0 [(0, .ref o)] [] h
  unfold f_X4_skips at hf
  replace hf := (bsome hf).choose_spec.2
  refine U_aload_n (n := 1) 0 C dX4_skips_0 rfl rfl rfl ?_
  refine gf_RX4_240 (n := 4) C dX4_skips_1 hf rfl (fun v1 hf => ?_)
  refine U_istore_n (n := 5) (lv2 := [(1, .int v1), (0, .ref o)]) C dX4_skips_4 (by decide) rfl rfl ?_
  refine U_join1 (fun h6 => U g Γ 2 Q 0 0 29 [(0, .ref o), (1, .int v1)] [] h6) hf (fun h6 hf => ?_) (fun h6 hf J => U_lv [1, 0] rfl (L_X4_skips_5 C hf J))
  refine U_aload_n (n := 30) 0 C dX4_skips_29 rfl rfl rfl ?_
  refine gf_RX4_240 (n := 33) C dX4_skips_30 hf rfl (fun v7 hf => ?_)
  refine U_iload_n (n := 34) 1 C dX4_skips_33 rfl rfl ?_
  refine U_icle (tgt := 41) (n := 37) C dX4_skips_34 (by decide) rfl (fun c8 => ?_) (fun c8 => ?_)
  · replace hf := (if_pos c8).symm.trans hf
    refine U_iconst (n := 42) (0 : Int32) C dX4_skips_41 kiconst_0 rfl ?_
    obtain ⟨hr1, hr2⟩ := Prod.mk.inj (Option.some.inj hf)
    subst hr1; subst hr2
    subst hQ
    exact U_zret C dX4_skips_42 (Or.inl rfl) (Nat.le_refl 0) (Nat.le_refl 0)
  · replace hf := (if_neg c8).symm.trans hf
    refine U_iconst (n := 38) (1 : Int32) C dX4_skips_37 kiconst_1 rfl ?_
    refine U_goto (n := 0) (tgt := 42) C dX4_skips_38 (by decide) ?_
    obtain ⟨hr1, hr2⟩ := Prod.mk.inj (Option.some.inj hf)
    subst hr1; subst hr2
    subst hQ
    exact U_zret C dX4_skips_42 (Or.inr rfl) (Nat.le_refl 0) (Nat.le_refl 0)
def f_X4_wordOf (a0 : Int64) (a2 : Int32) : Option Int32 :=
  if a2 = (4 : Int32) then (
    if (lg_cmp a0 (1886156147 : Int64)) = 0 then (
      some ((1 : Int32))
    ) else (
      if (lg_cmp a0 (2053468783 : Int64)) = 0 then (
        some ((3 : Int32))
      ) else (
        if (lg_cmp a0 (1685221232 : Int64)) = 0 then (
          some ((4 : Int32))
        ) else (
          some ((0 : Int32))
        )
      )
    )
  ) else (
    if a2 = (5 : Int32) then (
      if (lg_cmp a0 (469920281971 : Int64)) = 0 then (
        some ((2 : Int32))
      ) else (
        some ((0 : Int32))
      )
    ) else (
      if a2 = (6 : Int32) then (
        if (lg_cmp a0 (110386873988709 : Int64)) = 0 then (
          some ((5 : Int32))
        ) else (
          if (lg_cmp a0 (120299659095922 : Int64)) = 0 then (
            some ((6 : Int32))
          ) else (
            some ((0 : Int32))
          )
        )
      ) else (
        some ((0 : Int32))
      )
    )
  )
set_option maxHeartbeats 2000000 in
set_option maxRecDepth 20000 in
theorem M_X4_wordOf {g : GT} {a0 : Int64} {a2 : Int32} {h : Hp} {r : Int32} (hf : f_X4_wordOf a0 a2 = some r) : CM g yX4_wordOf cX4_wordOf 3 (some .int) 6 0 0 [.long a0, .int a2] h (.inr (some (.int r))) h := by
  refine CM_of rfl (fun _ => Nat.le_of_ble_eq_true rfl) (fun Γ C hn0 => ?_)
  have C : Cx g Γ cX4_wordOf RX4 "wordOf" 3 (some .int) 6 0 0 := C
  generalize hQ : Qe g Γ (.inr (some (.int r))) h 0 0 = Q
  show U g Γ 3 Q 0 0 0 [(0, .long a0), (2, .int a2)] [] h
  unfold f_X4_wordOf at hf
  refine U_iload_n (n := 1) 1 C dX4_wordOf_0 rfl rfl ?_
  refine U_iconst (n := 2) (4 : Int32) C dX4_wordOf_1 kiconst_4 rfl ?_
  refine U_icne (tgt := 43) (n := 5) C dX4_wordOf_2 (by decide) rfl (fun c1 => ?_) (fun c1 => ?_)
  · replace hf := (if_pos c1).symm.trans hf
    refine U_lload_n (n := 6) 0 C dX4_wordOf_5 rfl rfl ?_
    refine U_ldc2 (n := 9) (1886156147 : Int64) C dX4_wordOf_6 ct_RX4_247 rfl ?_
    refine U_lcmp (n := 10) C dX4_wordOf_9 rfl ?_
    refine U_ifne (tgt := 17) (n := 13) C dX4_wordOf_10 (by decide) rfl (fun c2 => ?_) (fun c2 => ?_)
    · replace hf := (if_pos c2).symm.trans hf
      refine U_iconst (n := 14) (1 : Int32) C dX4_wordOf_13 kiconst_1 rfl ?_
      refine U_goto (n := 0) (tgt := 42) C dX4_wordOf_14 (by decide) ?_
      have hr := (Option.some.inj hf)
      subst hr
      subst hQ
      exact U_iret C dX4_wordOf_42 (Nat.le_refl 0) (Nat.le_refl 0)
    · replace hf := (if_neg c2).symm.trans hf
      refine U_lload_n (n := 18) 0 C dX4_wordOf_17 rfl rfl ?_
      refine U_ldc2 (n := 21) (2053468783 : Int64) C dX4_wordOf_18 ct_RX4_249 rfl ?_
      refine U_lcmp (n := 22) C dX4_wordOf_21 rfl ?_
      refine U_ifne (tgt := 29) (n := 25) C dX4_wordOf_22 (by decide) rfl (fun c3 => ?_) (fun c3 => ?_)
      · replace hf := (if_pos c3).symm.trans hf
        refine U_iconst (n := 26) (3 : Int32) C dX4_wordOf_25 kiconst_3 rfl ?_
        refine U_goto (n := 0) (tgt := 42) C dX4_wordOf_26 (by decide) ?_
        have hr := (Option.some.inj hf)
        subst hr
        subst hQ
        exact U_iret C dX4_wordOf_42 (Nat.le_refl 0) (Nat.le_refl 0)
      · replace hf := (if_neg c3).symm.trans hf
        refine U_lload_n (n := 30) 0 C dX4_wordOf_29 rfl rfl ?_
        refine U_ldc2 (n := 33) (1685221232 : Int64) C dX4_wordOf_30 ct_RX4_251 rfl ?_
        refine U_lcmp (n := 34) C dX4_wordOf_33 rfl ?_
        refine U_ifne (tgt := 41) (n := 37) C dX4_wordOf_34 (by decide) rfl (fun c4 => ?_) (fun c4 => ?_)
        · replace hf := (if_pos c4).symm.trans hf
          refine U_iconst (n := 38) (4 : Int32) C dX4_wordOf_37 kiconst_4 rfl ?_
          refine U_goto (n := 0) (tgt := 42) C dX4_wordOf_38 (by decide) ?_
          have hr := (Option.some.inj hf)
          subst hr
          subst hQ
          exact U_iret C dX4_wordOf_42 (Nat.le_refl 0) (Nat.le_refl 0)
        · replace hf := (if_neg c4).symm.trans hf
          refine U_iconst (n := 42) (0 : Int32) C dX4_wordOf_41 kiconst_0 rfl ?_
          have hr := (Option.some.inj hf)
          subst hr
          subst hQ
          exact U_iret C dX4_wordOf_42 (Nat.le_refl 0) (Nat.le_refl 0)
  · replace hf := (if_neg c1).symm.trans hf
    refine U_iload_n (n := 44) 1 C dX4_wordOf_43 rfl rfl ?_
    refine U_iconst (n := 45) (5 : Int32) C dX4_wordOf_44 kiconst_5 rfl ?_
    refine U_icne (tgt := 62) (n := 48) C dX4_wordOf_45 (by decide) rfl (fun c5 => ?_) (fun c5 => ?_)
    · replace hf := (if_pos c5).symm.trans hf
      refine U_lload_n (n := 49) 0 C dX4_wordOf_48 rfl rfl ?_
      refine U_ldc2 (n := 52) (469920281971 : Int64) C dX4_wordOf_49 ct_RX4_253 rfl ?_
      refine U_lcmp (n := 53) C dX4_wordOf_52 rfl ?_
      refine U_ifne (tgt := 60) (n := 56) C dX4_wordOf_53 (by decide) rfl (fun c6 => ?_) (fun c6 => ?_)
      · replace hf := (if_pos c6).symm.trans hf
        refine U_iconst (n := 57) (2 : Int32) C dX4_wordOf_56 kiconst_2 rfl ?_
        refine U_goto (n := 0) (tgt := 61) C dX4_wordOf_57 (by decide) ?_
        have hr := (Option.some.inj hf)
        subst hr
        subst hQ
        exact U_iret C dX4_wordOf_61 (Nat.le_refl 0) (Nat.le_refl 0)
      · replace hf := (if_neg c6).symm.trans hf
        refine U_iconst (n := 61) (0 : Int32) C dX4_wordOf_60 kiconst_0 rfl ?_
        have hr := (Option.some.inj hf)
        subst hr
        subst hQ
        exact U_iret C dX4_wordOf_61 (Nat.le_refl 0) (Nat.le_refl 0)
    · replace hf := (if_neg c5).symm.trans hf
      refine U_iload_n (n := 63) 1 C dX4_wordOf_62 rfl rfl ?_
      refine U_bipush (n := 65) (6 : Int32) C dX4_wordOf_63 kbipush_6 rfl ?_
      refine U_iceq (tgt := 72) (n := 68) C dX4_wordOf_65 (by decide) rfl (fun c7 => ?_) (fun c7 => ?_)
      · replace hf := (if_pos c7).symm.trans hf
        refine U_lload_n (n := 73) 0 C dX4_wordOf_72 rfl rfl ?_
        refine U_ldc2 (n := 76) (110386873988709 : Int64) C dX4_wordOf_73 ct_RX4_255 rfl ?_
        refine U_lcmp (n := 77) C dX4_wordOf_76 rfl ?_
        refine U_ifne (tgt := 84) (n := 80) C dX4_wordOf_77 (by decide) rfl (fun c8 => ?_) (fun c8 => ?_)
        · replace hf := (if_pos c8).symm.trans hf
          refine U_iconst (n := 81) (5 : Int32) C dX4_wordOf_80 kiconst_5 rfl ?_
          refine U_goto (n := 0) (tgt := 98) C dX4_wordOf_81 (by decide) ?_
          have hr := (Option.some.inj hf)
          subst hr
          subst hQ
          exact U_iret C dX4_wordOf_98 (Nat.le_refl 0) (Nat.le_refl 0)
        · replace hf := (if_neg c8).symm.trans hf
          refine U_lload_n (n := 85) 0 C dX4_wordOf_84 rfl rfl ?_
          refine U_ldc2 (n := 88) (120299659095922 : Int64) C dX4_wordOf_85 ct_RX4_257 rfl ?_
          refine U_lcmp (n := 89) C dX4_wordOf_88 rfl ?_
          refine U_ifne (tgt := 97) (n := 92) C dX4_wordOf_89 (by decide) rfl (fun c9 => ?_) (fun c9 => ?_)
          · replace hf := (if_pos c9).symm.trans hf
            refine U_bipush (n := 94) (6 : Int32) C dX4_wordOf_92 kbipush_6 rfl ?_
            refine U_goto (n := 0) (tgt := 98) C dX4_wordOf_94 (by decide) ?_
            have hr := (Option.some.inj hf)
            subst hr
            subst hQ
            exact U_iret C dX4_wordOf_98 (Nat.le_refl 0) (Nat.le_refl 0)
          · replace hf := (if_neg c9).symm.trans hf
            refine U_iconst (n := 98) (0 : Int32) C dX4_wordOf_97 kiconst_0 rfl ?_
            have hr := (Option.some.inj hf)
            subst hr
            subst hQ
            exact U_iret C dX4_wordOf_98 (Nat.le_refl 0) (Nat.le_refl 0)
      · replace hf := (if_neg c7).symm.trans hf
        refine U_iconst (n := 69) (0 : Int32) C dX4_wordOf_68 kiconst_0 rfl ?_
        refine U_goto (n := 0) (tgt := 98) C dX4_wordOf_69 (by decide) ?_
        have hr := (Option.some.inj hf)
        subst hr
        subst hQ
        exact U_iret C dX4_wordOf_98 (Nat.le_refl 0) (Nat.le_refl 0)
def l_X4_areNames_11 (p0 : Nat) : Nat → Int32 → Hp → Option (Hp ⊕ (Int32 × Hp))
  | 0, _, _ => none
  | fuel + 1, x1, h =>
    if (3 : Int32) ≤ x1 then (
      some (.inl h)
    ) else (
      (f_X4_isAt p0 (97 : Int32) (104 : Int32) h).bind fun v5 =>
      if v5 = 0 then (
        some (.inr (((0 : Int32), h)))
      ) else (
        (fR 4 22 h p0).bind fun v7 =>
        (fR 4 4 h p0).bind fun v8 =>
        (fI 4 20 h p0).bind fun v9 =>
        (aI h v8 v9).bind fun v10 =>
        (wI h v7 x1 (v10 - (97 : Int32))).bind fun h11 =>
        (fI 4 20 h11 p0).bind fun v12 =>
        (sF 4 20 (.int (v12 + (1 : Int32))) h11 p0).bind fun h13 =>
        l_X4_areNames_11 p0 fuel (x1 + 1) h13
      )
    )
def f_X4_areNames (o : Nat) (h : Hp) : Option (Int32 × Hp) :=
  (rc 4 h o).bind fun _ =>
  bind2 (f_X4_skips o h) fun v1 h2 =>
  if v1 = 0 then (
    some (((0 : Int32), h2))
  ) else (
    bindR1 (l_X4_areNames_11 o FU (0 : Int32) h2) fun h14 =>
    some (((1 : Int32), h14))
  )
set_option maxHeartbeats 2000000 in
set_option maxRecDepth 20000 in
theorem L_X4_areNames_11 {g : GT} {Γ : CT} {Q : State → Prop} {mc ms : Nat} (C : Cx g Γ cX4_areNames RX4 "areNames" 2 (some .boolean) 9 mc ms) {p0 : Nat} : ∀ {fuel : Nat} {x1 : Int32} {h : Hp} {out : (Hp ⊕ (Int32 × Hp))}, l_X4_areNames_11 p0 fuel x1 h = some out → (∀ hy, out = .inl hy → U g Γ 2 Q 0 0 63 [] [] hy) → (∀ r, out = .inr r → Qe g Γ (.inr (some (.int r.1))) r.2 0 0 = Q) → U g Γ 2 Q 0 0 11 [(0, .ref p0), (1, .int x1)] [] h := by
  intro fuel
  induction fuel with
  | zero =>
    intro x1 h out hf J0 R0
    simp only [l_X4_areNames_11, reduceCtorEq] at hf
  | succ fuel ih =>
    intro x1 h out hf J0 R0
    rw [l_X4_areNames_11] at hf
    refine U_iload_n (n := 12) 1 C dX4_areNames_11 rfl rfl ?_
    refine U_iconst (n := 13) (3 : Int32) C dX4_areNames_12 kiconst_3 rfl ?_
    refine U_icge (tgt := 63) (n := 16) C dX4_areNames_13 (by decide) rfl (fun c4 => ?_) (fun c4 => ?_)
    · replace hf := (if_pos c4).symm.trans hf
      have hr := Option.some.inj hf
      subst hr
      exact U_lv [] rfl (J0 _ rfl)
    · replace hf := (if_neg c4).symm.trans hf
      refine U_aload_n (n := 17) 0 C dX4_areNames_16 rfl rfl rfl ?_
      refine U_bipush (n := 19) (97 : Int32) C dX4_areNames_17 kbipush_97 rfl ?_
      refine U_bipush (n := 21) (104 : Int32) C dX4_areNames_19 kbipush_104 rfl ?_
      obtain ⟨v5, ev5, hf⟩ := bsome hf
      refine cv_RX4_243 (n := 24) C dX4_areNames_21 (av := [.int (97 : Int32), .int (104 : Int32)]) rfl (rc_X4_isAt ev5) (M_X4_isAt ev5) (Nat.le_of_ble_eq_true rfl) (Nat.zero_le _) (Nat.zero_le _) (Nat.le_of_ble_eq_true rfl) rfl ?_
      refine U_ifne (tgt := 29) (n := 27) C dX4_areNames_24 (by decide) rfl (fun c6 => ?_) (fun c6 => ?_)
      · replace hf := (if_pos c6).symm.trans hf
        refine U_iconst (n := 28) (0 : Int32) C dX4_areNames_27 kiconst_0 rfl ?_
        have hr := Option.some.inj hf
        subst hr
        have hQ := R0 _ rfl
        subst hQ
        exact U_zret C dX4_areNames_28 (Or.inl rfl) (Nat.le_refl 0) (Nat.le_refl 0)
      · replace hf := (if_neg c6).symm.trans hf
        refine U_aload_n (n := 30) 0 C dX4_areNames_29 rfl rfl rfl ?_
        refine gf_RX4_53 (n := 33) C dX4_areNames_30 hf rfl (fun v7 hf => ?_)
        refine U_iload_n (n := 34) 1 C dX4_areNames_33 rfl rfl ?_
        refine U_aload_n (n := 35) 0 C dX4_areNames_34 rfl rfl rfl ?_
        refine gf_RX4_19 (n := 38) C dX4_areNames_35 hf rfl (fun v8 hf => ?_)
        refine U_aload_n (n := 39) 0 C dX4_areNames_38 rfl rfl rfl ?_
        refine gf_RX4_240 (n := 42) C dX4_areNames_39 hf rfl (fun v9 hf => ?_)
        refine U_iald (n := 43) C dX4_areNames_42 hf rfl (fun v10 hf => ?_)
        refine U_bipush (n := 45) (97 : Int32) C dX4_areNames_43 kbipush_97 rfl ?_
        refine U_isub (n := 46) C dX4_areNames_45 rfl ?_
        refine U_iast (n := 47) C dX4_areNames_46 hf rfl (fun h11 hf => ?_)
        refine U_aload_n (n := 48) 0 C dX4_areNames_47 rfl rfl rfl ?_
        refine U_dup (n := 49) C dX4_areNames_48 rfl rfl ?_
        refine gf_RX4_240 (n := 52) C dX4_areNames_49 hf rfl (fun v12 hf => ?_)
        refine U_iconst (n := 53) (1 : Int32) C dX4_areNames_52 kiconst_1 rfl ?_
        refine U_iadd (n := 54) C dX4_areNames_53 rfl ?_
        refine pf_RX4_240 (n := 57) C dX4_areNames_54 hf rfl (fun h13 hf => ?_)
        refine U_iinc (n := 60) (v := (x1 + 1)) (lv2 := [(1, .int (x1 + 1)), (0, .ref p0)]) 1 C dX4_areNames_57 rfl rfl (by decide) rfl rfl ?_
        refine U_goto (n := 0) (tgt := 11) C dX4_areNames_60 (by decide) ?_
        exact U_lv [1, 0] rfl (ih hf J0 R0)
theorem rc_X4_areNames {o : Nat} {h : Hp} {z} (hf : f_X4_areNames o h = some z) : rc 4 h o = some () := by
  unfold f_X4_areNames at hf
  exact (bsome hf).choose_spec.1
set_option maxHeartbeats 2000000 in
set_option maxRecDepth 20000 in
theorem M_X4_areNames {g : GT} {o : Nat} {h : Hp} {r : Int32} {h2 : Hp} (hf : f_X4_areNames o h = some (r, h2)) : CM g yX4_areNames cX4_areNames 2 (some .boolean) 9 0 0 [.ref o] h (.inr (some (.int r))) h2 := by
  refine CM_of rfl (fun _ => Nat.le_of_ble_eq_true rfl) (fun Γ C hn0 => ?_)
  have C : Cx g Γ cX4_areNames RX4 "areNames" 2 (some .boolean) 9 0 0 := C
  generalize hQ : Qe g Γ (.inr (some (.int r))) h2 0 0 = Q
  show U g Γ 2 Q 0 0 0 [(0, .ref o)] [] h
  unfold f_X4_areNames at hf
  replace hf := (bsome hf).choose_spec.2
  refine U_aload_n (n := 1) 0 C dX4_areNames_0 rfl rfl rfl ?_
  obtain ⟨v1, h2, ev1, hf⟩ := bsome2 hf
  refine cv_RX4_270 (n := 4) C dX4_areNames_1 (av := []) rfl (rc_X4_skips ev1) (M_X4_skips ev1) (Nat.le_of_ble_eq_true rfl) (Nat.zero_le _) (Nat.zero_le _) (Nat.le_of_ble_eq_true rfl) rfl ?_
  refine U_ifne (tgt := 9) (n := 7) C dX4_areNames_4 (by decide) rfl (fun c3 => ?_) (fun c3 => ?_)
  · replace hf := (if_pos c3).symm.trans hf
    refine U_iconst (n := 8) (0 : Int32) C dX4_areNames_7 kiconst_0 rfl ?_
    obtain ⟨hr1, hr2⟩ := Prod.mk.inj (Option.some.inj hf)
    subst hr1; subst hr2
    subst hQ
    exact U_zret C dX4_areNames_8 (Or.inl rfl) (Nat.le_refl 0) (Nat.le_refl 0)
  · replace hf := (if_neg c3).symm.trans hf
    refine U_iconst (n := 10) (0 : Int32) C dX4_areNames_9 kiconst_0 rfl ?_
    refine U_istore_n (n := 11) (lv2 := [(1, .int (0 : Int32)), (0, .ref o)]) C dX4_areNames_10 (by decide) rfl rfl ?_
    refine U_joinR1 (fun h14 => U g Γ 2 Q 0 0 63 [] [] h14) hf (fun h14 hf => ?_) (fun o17 hf J15 R16 => U_lv [1, 0] rfl (L_X4_areNames_11 C hf J15 ?_))
    rotate_left
    · intro r hr
      have hr2 := (R16 r hr)
      subst hr2
      exact hQ
    refine U_iconst (n := 64) (1 : Int32) C dX4_areNames_63 kiconst_1 rfl ?_
    obtain ⟨hr1, hr2⟩ := Prod.mk.inj (Option.some.inj hf)
    subst hr1; subst hr2
    subst hQ
    exact U_zret C dX4_areNames_64 (Or.inr rfl) (Nat.le_refl 0) (Nat.le_refl 0)
def l_X4_isCommand_7 (p0 : Nat) : Nat → Int64 → Hp → Option (Int64 × Hp)
  | 0, _, _ => none
  | fuel + 1, x2, h =>
    (f_X4_isAt p0 (97 : Int32) (122 : Int32) h).bind fun v2 =>
    if v2 = 0 then (
      some ((x2, h))
    ) else (
      (fR 4 4 h p0).bind fun v4 =>
      (fI 4 20 h p0).bind fun v5 =>
      (aI h v4 v5).bind fun v6 =>
      (fI 4 20 h p0).bind fun v7 =>
      (sF 4 20 (.int (v7 + (1 : Int32))) h p0).bind fun h8 =>
      l_X4_isCommand_7 p0 fuel ((x2 <<< (((8 : Int32)).toInt64 &&& 63)) ||| (v6).toInt64) h8
    )
def f_X4_isCommand (o : Nat) (h : Hp) : Option (Int32 × Hp) :=
  (rc 4 h o).bind fun _ =>
  (fI 4 20 h o).bind fun v1 =>
  bind2 (l_X4_isCommand_7 o FU (0 : Int64) h) fun v9 h10 =>
  (fI 4 20 h10 o).bind fun v11 =>
  (f_X4_wordOf v9 (v11 - v1)).bind fun v12 =>
  (sF 4 21 (.int v12) h10 o).bind fun h13 =>
  (fI 4 21 h13 o).bind fun v14 =>
  if v14 = 0 then (
    (sF 4 20 (.int v1) h13 o).bind fun h16 =>
    some (((0 : Int32), h16))
  ) else (
    (fI 4 21 h13 o).bind fun v17 =>
    bindR1 (
      if (5 : Int32) ≤ v17 then (
        some (Sum.inl h13)
      ) else (
        bind2 (f_X4_areNames o h13) fun v29 h30 =>
        if v29 = 0 then (
          some (.inr (((0 : Int32), h30)))
        ) else (
          some (Sum.inl h30)
        )
      )
    ) fun h19 =>
    bind2 (f_X4_skips o h19) fun v23 h24 =>
    (f_X4_isAt o (59 : Int32) (59 : Int32) h24).bind fun v25 =>
    if v25 = 0 then (
      some (((0 : Int32), h24))
    ) else (
      (fI 4 20 h24 o).bind fun v27 =>
      (sF 4 20 (.int (v27 + (1 : Int32))) h24 o).bind fun h28 =>
      some (((1 : Int32), h28))
    )
  )
set_option maxHeartbeats 2000000 in
set_option maxRecDepth 20000 in
theorem L_X4_isCommand_7 {g : GT} {Γ : CT} {Q : State → Prop} {mc ms : Nat} (C : Cx g Γ cX4_isCommand RX4 "isCommand" 5 (some .boolean) 10 mc ms) {p0 : Nat} {p1 : Int32} : ∀ {fuel : Nat} {x2 : Int64} {h : Hp} {y2 : Int64} {hy : Hp}, l_X4_isCommand_7 p0 fuel x2 h = some (y2, hy) → U g Γ 5 Q 0 0 47 [(0, .ref p0), (1, .int p1), (2, .long y2)] [] hy → U g Γ 5 Q 0 0 7 [(0, .ref p0), (1, .int p1), (2, .long x2)] [] h := by
  intro fuel
  induction fuel with
  | zero =>
    intro x2 h y2 hy hf J0
    simp only [l_X4_isCommand_7, reduceCtorEq] at hf
  | succ fuel ih =>
    intro x2 h y2 hy hf J0
    rw [l_X4_isCommand_7] at hf
    refine U_aload_n (n := 8) 0 C dX4_isCommand_7 rfl rfl rfl ?_
    refine U_bipush (n := 10) (97 : Int32) C dX4_isCommand_8 kbipush_97 rfl ?_
    refine U_bipush (n := 12) (122 : Int32) C dX4_isCommand_10 kbipush_122 rfl ?_
    obtain ⟨v2, ev2, hf⟩ := bsome hf
    refine cv_RX4_243 (n := 15) C dX4_isCommand_12 (av := [.int (97 : Int32), .int (122 : Int32)]) rfl (rc_X4_isAt ev2) (M_X4_isAt ev2) (Nat.le_of_ble_eq_true rfl) (Nat.zero_le _) (Nat.zero_le _) (Nat.le_of_ble_eq_true rfl) rfl ?_
    refine U_ifeq (tgt := 47) (n := 18) C dX4_isCommand_15 (by decide) rfl (fun c3 => ?_) (fun c3 => ?_)
    · replace hf := (if_pos c3).symm.trans hf
      obtain ⟨hr0, hs0⟩ := Prod.mk.inj (Option.some.inj hf)
      subst hr0
      subst hs0
      exact U_lv [0, 1, 2] rfl J0
    · replace hf := (if_neg c3).symm.trans hf
      refine U_lload_n (n := 19) 2 C dX4_isCommand_18 rfl rfl ?_
      refine U_bipush (n := 21) (8 : Int32) C dX4_isCommand_19 kbipush_8 rfl ?_
      refine U_lshl (n := 22) C dX4_isCommand_21 rfl ?_
      refine U_aload_n (n := 23) 0 C dX4_isCommand_22 rfl rfl rfl ?_
      refine gf_RX4_19 (n := 26) C dX4_isCommand_23 hf rfl (fun v4 hf => ?_)
      refine U_aload_n (n := 27) 0 C dX4_isCommand_26 rfl rfl rfl ?_
      refine gf_RX4_240 (n := 30) C dX4_isCommand_27 hf rfl (fun v5 hf => ?_)
      refine U_iald (n := 31) C dX4_isCommand_30 hf rfl (fun v6 hf => ?_)
      refine U_i2l (n := 32) C dX4_isCommand_31 rfl ?_
      refine U_lor (n := 33) C dX4_isCommand_32 rfl ?_
      refine U_lstore_n (n := 34) (lv2 := [(2, .long ((x2 <<< (((8 : Int32)).toInt64 &&& 63)) ||| (v6).toInt64)), (0, .ref p0), (1, .int p1)]) C dX4_isCommand_33 (by decide) rfl rfl ?_
      refine U_aload_n (n := 35) 1 C dX4_isCommand_34 rfl rfl rfl ?_
      refine U_dup (n := 36) C dX4_isCommand_35 rfl rfl ?_
      refine gf_RX4_240 (n := 39) C dX4_isCommand_36 hf rfl (fun v7 hf => ?_)
      refine U_iconst (n := 40) (1 : Int32) C dX4_isCommand_39 kiconst_1 rfl ?_
      refine U_iadd (n := 41) C dX4_isCommand_40 rfl ?_
      refine pf_RX4_240 (n := 44) C dX4_isCommand_41 hf rfl (fun h8 hf => ?_)
      refine U_goto (n := 0) (tgt := 7) C dX4_isCommand_44 (by decide) ?_
      exact U_lv [1, 2, 0] rfl (ih hf J0)
theorem rc_X4_isCommand {o : Nat} {h : Hp} {z} (hf : f_X4_isCommand o h = some z) : rc 4 h o = some () := by
  unfold f_X4_isCommand at hf
  exact (bsome hf).choose_spec.1
set_option maxHeartbeats 2000000 in
set_option maxRecDepth 20000 in
theorem M_X4_isCommand {g : GT} {o : Nat} {h : Hp} {r : Int32} {h2 : Hp} (hf : f_X4_isCommand o h = some (r, h2)) : CM g yX4_isCommand cX4_isCommand 5 (some .boolean) 10 0 0 [.ref o] h (.inr (some (.int r))) h2 := by
  refine CM_of rfl (fun _ => Nat.le_of_ble_eq_true rfl) (fun Γ C hn0 => ?_)
  have C : Cx g Γ cX4_isCommand RX4 "isCommand" 5 (some .boolean) 10 0 0 := C
  generalize hQ : Qe g Γ (.inr (some (.int r))) h2 0 0 = Q
  show U g Γ 5 Q 0 0 0 [(0, .ref o)] [] h
  unfold f_X4_isCommand at hf
  replace hf := (bsome hf).choose_spec.2
  refine U_aload_n (n := 1) 0 C dX4_isCommand_0 rfl rfl rfl ?_
  refine gf_RX4_240 (n := 4) C dX4_isCommand_1 hf rfl (fun v1 hf => ?_)
  refine U_istore_n (n := 5) (lv2 := [(1, .int v1), (0, .ref o)]) C dX4_isCommand_4 (by decide) rfl rfl ?_
  refine U_lconst (n := 6) (0 : Int64) C dX4_isCommand_5 klconst_0 rfl ?_
  refine U_lstore_n (n := 7) (lv2 := [(2, .long (0 : Int64)), (1, .int v1), (0, .ref o)]) C dX4_isCommand_6 (by decide) rfl rfl ?_
  refine U_join2 (fun v9 h10 => U g Γ 5 Q 0 0 47 [(0, .ref o), (1, .int v1), (2, .long v9)] [] h10) hf (fun v9 h10 hf => ?_) (fun v9 h10 hf J => U_lv [2, 1, 0] rfl (L_X4_isCommand_7 C hf J))
  refine U_aload_n (n := 48) 0 C dX4_isCommand_47 rfl rfl rfl ?_
  refine U_lload_n (n := 49) 2 C dX4_isCommand_48 rfl rfl ?_
  refine U_aload_n (n := 50) 0 C dX4_isCommand_49 rfl rfl rfl ?_
  refine gf_RX4_240 (n := 53) C dX4_isCommand_50 hf rfl (fun v11 hf => ?_)
  refine U_iload_n (n := 54) 1 C dX4_isCommand_53 rfl rfl ?_
  refine U_isub (n := 55) C dX4_isCommand_54 rfl ?_
  obtain ⟨v12, ev12, hf⟩ := bsome hf
  refine cv_RX4_259 (n := 58) C dX4_isCommand_55 (av := [.long v9, .int (v11 - v1)]) rfl (M_X4_wordOf ev12) (Nat.le_of_ble_eq_true rfl) (Nat.zero_le _) (Nat.zero_le _) (Nat.le_of_ble_eq_true rfl) rfl ?_
  refine pf_RX4_263 (n := 61) C dX4_isCommand_58 hf rfl (fun h13 hf => ?_)
  refine U_aload_n (n := 62) 0 C dX4_isCommand_61 rfl rfl rfl ?_
  refine gf_RX4_263 (n := 65) C dX4_isCommand_62 hf rfl (fun v14 hf => ?_)
  refine U_ifne (tgt := 75) (n := 68) C dX4_isCommand_65 (by decide) rfl (fun c15 => ?_) (fun c15 => ?_)
  · replace hf := (if_pos c15).symm.trans hf
    refine U_aload_n (n := 69) 0 C dX4_isCommand_68 rfl rfl rfl ?_
    refine U_iload_n (n := 70) 1 C dX4_isCommand_69 rfl rfl ?_
    refine pf_RX4_240 (n := 73) C dX4_isCommand_70 hf rfl (fun h16 hf => ?_)
    refine U_iconst (n := 74) (0 : Int32) C dX4_isCommand_73 kiconst_0 rfl ?_
    obtain ⟨hr1, hr2⟩ := Prod.mk.inj (Option.some.inj hf)
    subst hr1; subst hr2
    subst hQ
    exact U_zret C dX4_isCommand_74 (Or.inl rfl) (Nat.le_refl 0) (Nat.le_refl 0)
  · replace hf := (if_neg c15).symm.trans hf
    refine U_aload_n (n := 76) 0 C dX4_isCommand_75 rfl rfl rfl ?_
    refine gf_RX4_263 (n := 79) C dX4_isCommand_76 hf rfl (fun v17 hf => ?_)
    refine U_iconst (n := 80) (5 : Int32) C dX4_isCommand_79 kiconst_5 rfl ?_
    refine U_joinR1 (fun h19 => U g Γ 5 Q 0 0 92 [(0, .ref o)] [] h19) hf (fun h19 hf => ?_) (fun o20 hf J21 R22 => ?_)
    · skip
      refine U_aload_n (n := 93) 0 C dX4_isCommand_92 rfl rfl rfl ?_
      obtain ⟨v23, h24, ev23, hf⟩ := bsome2 hf
      refine cv_RX4_270 (n := 96) C dX4_isCommand_93 (av := []) rfl (rc_X4_skips ev23) (M_X4_skips ev23) (Nat.le_of_ble_eq_true rfl) (Nat.zero_le _) (Nat.zero_le _) (Nat.le_of_ble_eq_true rfl) rfl ?_
      refine U_istore (n := 98) (lv2 := [(4, .int v23), (0, .ref o)]) C dX4_isCommand_96 (by decide) rfl rfl ?_
      refine U_aload_n (n := 99) 1 C dX4_isCommand_98 rfl rfl rfl ?_
      refine U_bipush (n := 101) (59 : Int32) C dX4_isCommand_99 kbipush_59 rfl ?_
      refine U_bipush (n := 103) (59 : Int32) C dX4_isCommand_101 kbipush_59 rfl ?_
      obtain ⟨v25, ev25, hf⟩ := bsome hf
      refine cv_RX4_243 (n := 106) C dX4_isCommand_103 (av := [.int (59 : Int32), .int (59 : Int32)]) rfl (rc_X4_isAt ev25) (M_X4_isAt ev25) (Nat.le_of_ble_eq_true rfl) (Nat.zero_le _) (Nat.zero_le _) (Nat.le_of_ble_eq_true rfl) rfl ?_
      refine U_ifne (tgt := 111) (n := 109) C dX4_isCommand_106 (by decide) rfl (fun c26 => ?_) (fun c26 => ?_)
      · replace hf := (if_pos c26).symm.trans hf
        refine U_iconst (n := 110) (0 : Int32) C dX4_isCommand_109 kiconst_0 rfl ?_
        obtain ⟨hr1, hr2⟩ := Prod.mk.inj (Option.some.inj hf)
        subst hr1; subst hr2
        subst hQ
        exact U_zret C dX4_isCommand_110 (Or.inl rfl) (Nat.le_refl 0) (Nat.le_refl 0)
      · replace hf := (if_neg c26).symm.trans hf
        refine U_aload_n (n := 112) 1 C dX4_isCommand_111 rfl rfl rfl ?_
        refine U_dup (n := 113) C dX4_isCommand_112 rfl rfl ?_
        refine gf_RX4_240 (n := 116) C dX4_isCommand_113 hf rfl (fun v27 hf => ?_)
        refine U_iconst (n := 117) (1 : Int32) C dX4_isCommand_116 kiconst_1 rfl ?_
        refine U_iadd (n := 118) C dX4_isCommand_117 rfl ?_
        refine pf_RX4_240 (n := 121) C dX4_isCommand_118 hf rfl (fun h28 hf => ?_)
        refine U_iconst (n := 122) (1 : Int32) C dX4_isCommand_121 kiconst_1 rfl ?_
        obtain ⟨hr1, hr2⟩ := Prod.mk.inj (Option.some.inj hf)
        subst hr1; subst hr2
        subst hQ
        exact U_zret C dX4_isCommand_122 (Or.inr rfl) (Nat.le_refl 0) (Nat.le_refl 0)
    · skip
      refine U_icge (tgt := 92) (n := 83) C dX4_isCommand_80 (by decide) rfl (fun c18 => ?_) (fun c18 => ?_)
      · replace hf := (if_pos c18).symm.trans hf
        have hr := Option.some.inj hf
        subst hr
        exact U_lv [0] rfl (J21 _ rfl)
      · replace hf := (if_neg c18).symm.trans hf
        refine U_aload_n (n := 84) 0 C dX4_isCommand_83 rfl rfl rfl ?_
        obtain ⟨v29, h30, ev29, hf⟩ := bsome2 hf
        refine cv_RX4_266 (n := 87) C dX4_isCommand_84 (av := []) rfl (rc_X4_areNames ev29) (M_X4_areNames ev29) (Nat.le_of_ble_eq_true rfl) (Nat.zero_le _) (Nat.zero_le _) (Nat.le_of_ble_eq_true rfl) rfl ?_
        refine U_ifne (tgt := 92) (n := 90) C dX4_isCommand_87 (by decide) rfl (fun c31 => ?_) (fun c31 => ?_)
        · replace hf := (if_pos c31).symm.trans hf
          refine U_iconst (n := 91) (0 : Int32) C dX4_isCommand_90 kiconst_0 rfl ?_
          have hr := Option.some.inj hf
          subst hr
          obtain ⟨hr1, hr2⟩ := Prod.mk.inj (R22 _ rfl)
          subst hr1; subst hr2
          subst hQ
          exact U_zret C dX4_isCommand_91 (Or.inl rfl) (Nat.le_refl 0) (Nat.le_refl 0)
        · replace hf := (if_neg c31).symm.trans hf
          have hr := Option.some.inj hf
          subst hr
          exact U_lv [0] rfl (J21 _ rfl)
def f_X4_does (o : Nat) (h : Hp) : Option (Int32 × Hp) :=
  (rc 4 h o).bind fun _ =>
  (fI 4 21 h o).bind fun v1 =>
  if v1 = 1 then (
    (fR 4 22 h o).bind fun v3 =>
    (aI h v3 (0 : Int32)).bind fun v4 =>
    (fR 4 22 h o).bind fun v5 =>
    (aI h v5 (1 : Int32)).bind fun v6 =>
    (fR 4 22 h o).bind fun v7 =>
    (aI h v7 (2 : Int32)).bind fun v8 =>
    bind2 (f_X4_givesTo o v4 v6 v8 (1 : Int32) h) fun v9 h10 =>
    some ((v9, h10))
  ) else (
  if v1 = 2 then (
    (fR 4 22 h o).bind fun v12 =>
    (aI h v12 (0 : Int32)).bind fun v13 =>
    (fR 4 22 h o).bind fun v14 =>
    (aI h v14 (1 : Int32)).bind fun v15 =>
    (fR 4 22 h o).bind fun v16 =>
    (aI h v16 (2 : Int32)).bind fun v17 =>
    bind2 (f_X4_givesTo o v13 v15 v17 (-1 : Int32) h) fun v18 h19 =>
    some ((v18, h19))
  ) else (
  if v1 = 3 then (
    (fR 4 22 h o).bind fun v21 =>
    (aI h v21 (0 : Int32)).bind fun v22 =>
    (fR 4 22 h o).bind fun v23 =>
    (aI h v23 (1 : Int32)).bind fun v24 =>
    (fR 4 22 h o).bind fun v25 =>
    (aI h v25 (2 : Int32)).bind fun v26 =>
    bind2 (f_X4_givesTo o v22 v24 v26 (0 : Int32) h) fun v27 h28 =>
    some ((v27, h28))
  ) else (
  if v1 = 4 then (
    (fR 4 22 h o).bind fun v30 =>
    (aI h v30 (0 : Int32)).bind fun v31 =>
    (fR 4 22 h o).bind fun v32 =>
    (aI h v32 (1 : Int32)).bind fun v33 =>
    (fR 4 22 h o).bind fun v34 =>
    (aI h v34 (2 : Int32)).bind fun v35 =>
    bind2 (f_X4_drops o v31 v33 v35 h) fun v36 h37 =>
    some ((v36, h37))
  ) else (
  if v1 = 5 then (
    bind2 (f_X4_derives o h) fun v39 h40 =>
    some ((((0 : Int32) * v39), h40))
  ) else (
    bind2 (f_X4_flips o (-100 : Int32) h) fun v42 h43 =>
    some ((((0 : Int32) * v42), h43))
  )))))
theorem rc_X4_does {o : Nat} {h : Hp} {z} (hf : f_X4_does o h = some z) : rc 4 h o = some () := by
  unfold f_X4_does at hf
  exact (bsome hf).choose_spec.1
set_option maxHeartbeats 2000000 in
set_option maxRecDepth 20000 in
theorem M_X4_does {g : GT} {o : Nat} {h : Hp} {r : Int32} {h2 : Hp} (hf : f_X4_does o h = some (r, h2)) : CM g yX4_does cX4_does 1 (some .int) 11 0 0 [.ref o] h (.inr (some (.int r))) h2 := by
  refine CM_of rfl (fun _ => Nat.le_of_ble_eq_true rfl) (fun Γ C hn0 => ?_)
  have C : Cx g Γ cX4_does RX4 "does" 1 (some .int) 11 0 0 := C
  generalize hQ : Qe g Γ (.inr (some (.int r))) h2 0 0 = Q
  show U g Γ 1 Q 0 0 0 [(0, .ref o)] [] h
  unfold f_X4_does at hf
  replace hf := (bsome hf).choose_spec.2
  refine U_aload_n (n := 1) 0 C dX4_does_0 rfl rfl rfl ?_
  refine gf_RX4_263 (n := 4) C dX4_does_1 hf rfl (fun v1 hf => ?_)
  by_cases c2 : v1 = 1
  · replace hf := (if_pos c2).symm.trans hf
    refine U_tblIn (tgt := 40) C dX4_does_4 (by rw [c2]; decide) (by rw [c2]; decide) (by rw [c2]; rfl) (by decide) ?_
    refine U_aload_n (n := 41) 0 C dX4_does_40 rfl rfl rfl ?_
    refine U_aload_n (n := 42) 0 C dX4_does_41 rfl rfl rfl ?_
    refine gf_RX4_53 (n := 45) C dX4_does_42 hf rfl (fun v3 hf => ?_)
    refine U_iconst (n := 46) (0 : Int32) C dX4_does_45 kiconst_0 rfl ?_
    refine U_iald (n := 47) C dX4_does_46 hf rfl (fun v4 hf => ?_)
    refine U_aload_n (n := 48) 0 C dX4_does_47 rfl rfl rfl ?_
    refine gf_RX4_53 (n := 51) C dX4_does_48 hf rfl (fun v5 hf => ?_)
    refine U_iconst (n := 52) (1 : Int32) C dX4_does_51 kiconst_1 rfl ?_
    refine U_iald (n := 53) C dX4_does_52 hf rfl (fun v6 hf => ?_)
    refine U_aload_n (n := 54) 0 C dX4_does_53 rfl rfl rfl ?_
    refine gf_RX4_53 (n := 57) C dX4_does_54 hf rfl (fun v7 hf => ?_)
    refine U_iconst (n := 58) (2 : Int32) C dX4_does_57 kiconst_2 rfl ?_
    refine U_iald (n := 59) C dX4_does_58 hf rfl (fun v8 hf => ?_)
    refine U_iconst (n := 60) (1 : Int32) C dX4_does_59 kiconst_1 rfl ?_
    obtain ⟨v9, h10, ev9, hf⟩ := bsome2 hf
    refine cv_RX4_138 (n := 63) C dX4_does_60 (av := [.int v4, .int v6, .int v8, .int (1 : Int32)]) rfl (rc_X4_givesTo ev9) (M_X4_givesTo ev9) (Nat.le_of_ble_eq_true rfl) (Nat.zero_le _) (Nat.zero_le _) (Nat.le_of_ble_eq_true rfl) rfl ?_
    obtain ⟨hr1, hr2⟩ := Prod.mk.inj (Option.some.inj hf)
    subst hr1; subst hr2
    subst hQ
    exact U_iret C dX4_does_63 (Nat.le_refl 0) (Nat.le_refl 0)
  replace hf := (if_neg c2).symm.trans hf
  by_cases c11 : v1 = 2
  · replace hf := (if_pos c11).symm.trans hf
    refine U_tblIn (tgt := 64) C dX4_does_4 (by rw [c11]; decide) (by rw [c11]; decide) (by rw [c11]; rfl) (by decide) ?_
    refine U_aload_n (n := 65) 0 C dX4_does_64 rfl rfl rfl ?_
    refine U_aload_n (n := 66) 0 C dX4_does_65 rfl rfl rfl ?_
    refine gf_RX4_53 (n := 69) C dX4_does_66 hf rfl (fun v12 hf => ?_)
    refine U_iconst (n := 70) (0 : Int32) C dX4_does_69 kiconst_0 rfl ?_
    refine U_iald (n := 71) C dX4_does_70 hf rfl (fun v13 hf => ?_)
    refine U_aload_n (n := 72) 0 C dX4_does_71 rfl rfl rfl ?_
    refine gf_RX4_53 (n := 75) C dX4_does_72 hf rfl (fun v14 hf => ?_)
    refine U_iconst (n := 76) (1 : Int32) C dX4_does_75 kiconst_1 rfl ?_
    refine U_iald (n := 77) C dX4_does_76 hf rfl (fun v15 hf => ?_)
    refine U_aload_n (n := 78) 0 C dX4_does_77 rfl rfl rfl ?_
    refine gf_RX4_53 (n := 81) C dX4_does_78 hf rfl (fun v16 hf => ?_)
    refine U_iconst (n := 82) (2 : Int32) C dX4_does_81 kiconst_2 rfl ?_
    refine U_iald (n := 83) C dX4_does_82 hf rfl (fun v17 hf => ?_)
    refine U_iconst (n := 84) (-1 : Int32) C dX4_does_83 kiconst_m1 rfl ?_
    obtain ⟨v18, h19, ev18, hf⟩ := bsome2 hf
    refine cv_RX4_138 (n := 87) C dX4_does_84 (av := [.int v13, .int v15, .int v17, .int (-1 : Int32)]) rfl (rc_X4_givesTo ev18) (M_X4_givesTo ev18) (Nat.le_of_ble_eq_true rfl) (Nat.zero_le _) (Nat.zero_le _) (Nat.le_of_ble_eq_true rfl) rfl ?_
    obtain ⟨hr1, hr2⟩ := Prod.mk.inj (Option.some.inj hf)
    subst hr1; subst hr2
    subst hQ
    exact U_iret C dX4_does_87 (Nat.le_refl 0) (Nat.le_refl 0)
  replace hf := (if_neg c11).symm.trans hf
  by_cases c20 : v1 = 3
  · replace hf := (if_pos c20).symm.trans hf
    refine U_tblIn (tgt := 88) C dX4_does_4 (by rw [c20]; decide) (by rw [c20]; decide) (by rw [c20]; rfl) (by decide) ?_
    refine U_aload_n (n := 89) 0 C dX4_does_88 rfl rfl rfl ?_
    refine U_aload_n (n := 90) 0 C dX4_does_89 rfl rfl rfl ?_
    refine gf_RX4_53 (n := 93) C dX4_does_90 hf rfl (fun v21 hf => ?_)
    refine U_iconst (n := 94) (0 : Int32) C dX4_does_93 kiconst_0 rfl ?_
    refine U_iald (n := 95) C dX4_does_94 hf rfl (fun v22 hf => ?_)
    refine U_aload_n (n := 96) 0 C dX4_does_95 rfl rfl rfl ?_
    refine gf_RX4_53 (n := 99) C dX4_does_96 hf rfl (fun v23 hf => ?_)
    refine U_iconst (n := 100) (1 : Int32) C dX4_does_99 kiconst_1 rfl ?_
    refine U_iald (n := 101) C dX4_does_100 hf rfl (fun v24 hf => ?_)
    refine U_aload_n (n := 102) 0 C dX4_does_101 rfl rfl rfl ?_
    refine gf_RX4_53 (n := 105) C dX4_does_102 hf rfl (fun v25 hf => ?_)
    refine U_iconst (n := 106) (2 : Int32) C dX4_does_105 kiconst_2 rfl ?_
    refine U_iald (n := 107) C dX4_does_106 hf rfl (fun v26 hf => ?_)
    refine U_iconst (n := 108) (0 : Int32) C dX4_does_107 kiconst_0 rfl ?_
    obtain ⟨v27, h28, ev27, hf⟩ := bsome2 hf
    refine cv_RX4_138 (n := 111) C dX4_does_108 (av := [.int v22, .int v24, .int v26, .int (0 : Int32)]) rfl (rc_X4_givesTo ev27) (M_X4_givesTo ev27) (Nat.le_of_ble_eq_true rfl) (Nat.zero_le _) (Nat.zero_le _) (Nat.le_of_ble_eq_true rfl) rfl ?_
    obtain ⟨hr1, hr2⟩ := Prod.mk.inj (Option.some.inj hf)
    subst hr1; subst hr2
    subst hQ
    exact U_iret C dX4_does_111 (Nat.le_refl 0) (Nat.le_refl 0)
  replace hf := (if_neg c20).symm.trans hf
  by_cases c29 : v1 = 4
  · replace hf := (if_pos c29).symm.trans hf
    refine U_tblIn (tgt := 112) C dX4_does_4 (by rw [c29]; decide) (by rw [c29]; decide) (by rw [c29]; rfl) (by decide) ?_
    refine U_aload_n (n := 113) 0 C dX4_does_112 rfl rfl rfl ?_
    refine U_aload_n (n := 114) 0 C dX4_does_113 rfl rfl rfl ?_
    refine gf_RX4_53 (n := 117) C dX4_does_114 hf rfl (fun v30 hf => ?_)
    refine U_iconst (n := 118) (0 : Int32) C dX4_does_117 kiconst_0 rfl ?_
    refine U_iald (n := 119) C dX4_does_118 hf rfl (fun v31 hf => ?_)
    refine U_aload_n (n := 120) 0 C dX4_does_119 rfl rfl rfl ?_
    refine gf_RX4_53 (n := 123) C dX4_does_120 hf rfl (fun v32 hf => ?_)
    refine U_iconst (n := 124) (1 : Int32) C dX4_does_123 kiconst_1 rfl ?_
    refine U_iald (n := 125) C dX4_does_124 hf rfl (fun v33 hf => ?_)
    refine U_aload_n (n := 126) 0 C dX4_does_125 rfl rfl rfl ?_
    refine gf_RX4_53 (n := 129) C dX4_does_126 hf rfl (fun v34 hf => ?_)
    refine U_iconst (n := 130) (2 : Int32) C dX4_does_129 kiconst_2 rfl ?_
    refine U_iald (n := 131) C dX4_does_130 hf rfl (fun v35 hf => ?_)
    obtain ⟨v36, h37, ev36, hf⟩ := bsome2 hf
    refine cv_RX4_145 (n := 134) C dX4_does_131 (av := [.int v31, .int v33, .int v35]) rfl (rc_X4_drops ev36) (M_X4_drops ev36) (Nat.le_of_ble_eq_true rfl) (Nat.zero_le _) (Nat.zero_le _) (Nat.le_of_ble_eq_true rfl) rfl ?_
    obtain ⟨hr1, hr2⟩ := Prod.mk.inj (Option.some.inj hf)
    subst hr1; subst hr2
    subst hQ
    exact U_iret C dX4_does_134 (Nat.le_refl 0) (Nat.le_refl 0)
  replace hf := (if_neg c29).symm.trans hf
  by_cases c38 : v1 = 5
  · replace hf := (if_pos c38).symm.trans hf
    refine U_tblIn (tgt := 135) C dX4_does_4 (by rw [c38]; decide) (by rw [c38]; decide) (by rw [c38]; rfl) (by decide) ?_
    refine U_iconst (n := 136) (0 : Int32) C dX4_does_135 kiconst_0 rfl ?_
    refine U_aload_n (n := 137) 0 C dX4_does_136 rfl rfl rfl ?_
    obtain ⟨v39, h40, ev39, hf⟩ := bsome2 hf
    refine cv_RX4_167 (n := 140) C dX4_does_137 (av := []) rfl (rc_X4_derives ev39) (M_X4_derives ev39) (Nat.le_of_ble_eq_true rfl) (Nat.zero_le _) (Nat.zero_le _) (Nat.le_of_ble_eq_true rfl) rfl ?_
    refine U_imul (n := 141) C dX4_does_140 rfl ?_
    obtain ⟨hr1, hr2⟩ := Prod.mk.inj (Option.some.inj hf)
    subst hr1; subst hr2
    subst hQ
    exact U_iret C dX4_does_141 (Nat.le_refl 0) (Nat.le_refl 0)
  replace hf := (if_neg c38).symm.trans hf
  have hn41 : (v1).toInt < 1 ∨ 5 < (v1).toInt := by
    have := i32_ne c2
    have := i32_ne c11
    have := i32_ne c20
    have := i32_ne c29
    have := i32_ne c38
    simp only [Int32.reduceToInt] at *
    omega
  refine U_tblOut (tgt := 142) C dX4_does_4 hn41 (by decide) ?_
  refine U_iconst (n := 143) (0 : Int32) C dX4_does_142 kiconst_0 rfl ?_
  refine U_aload_n (n := 144) 0 C dX4_does_143 rfl rfl rfl ?_
  refine U_bipush (n := 146) (-100 : Int32) C dX4_does_144 kbipush_m100 rfl ?_
  obtain ⟨v42, h43, ev42, hf⟩ := bsome2 hf
  refine cv_RX4_170 (n := 149) C dX4_does_146 (av := [.int (-100 : Int32)]) rfl (rc_X4_flips ev42) (M_X4_flips ev42) (Nat.le_of_ble_eq_true rfl) (Nat.zero_le _) (Nat.zero_le _) (Nat.le_of_ble_eq_true rfl) rfl ?_
  refine U_imul (n := 150) C dX4_does_149 rfl ?_
  obtain ⟨hr1, hr2⟩ := Prod.mk.inj (Option.some.inj hf)
  subst hr1; subst hr2
  subst hQ
  exact U_iret C dX4_does_150 (Nat.le_refl 0) (Nat.le_refl 0)
