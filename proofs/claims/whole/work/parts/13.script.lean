def l_X1_behindSpaces_2 (p0 : Nat) (h : Hp) : Nat → Int32 → Option Int32
  | 0, _ => none
  | fuel + 1, x2 =>
    (fI 1 1 h p0).bind fun v1 =>
    if v1 ≤ x2 then (
      some x2
    ) else (
      (fR 1 0 h p0).bind fun v3 =>
      (aI h v3 x2).bind fun v4 =>
      if v4 = (32 : Int32) then (
        l_X1_behindSpaces_2 p0 h fuel (x2 + 1)
      ) else (
        some x2
      )
    )
def f_X1_behindSpaces (o : Nat) (a1 : Int32) (h : Hp) : Option Int32 :=
  (rc 1 h o).bind fun _ =>
  (l_X1_behindSpaces_2 o h FU a1).bind fun v6 =>
  some (v6)
set_option maxHeartbeats 2000000 in
set_option maxRecDepth 20000 in
theorem L_X1_behindSpaces_2 {g : GT} {Γ : CT} {Q : State → Prop} {mc ms : Nat} (C : Cx g Γ cX1_behindSpaces RX1 "behindSpaces" 3 (some .int) 6 mc ms) {p0 : Nat} {h : Hp} : ∀ {fuel : Nat} {x2 : Int32} {y2 : Int32}, l_X1_behindSpaces_2 p0 h fuel x2 = some y2 → U g Γ 3 Q 0 0 27 [(2, .int y2)] [] h → U g Γ 3 Q 0 0 2 [(0, .ref p0), (2, .int x2)] [] h := by
  intro fuel
  induction fuel with
  | zero =>
    intro x2 y2 hf J0
    simp only [l_X1_behindSpaces_2, reduceCtorEq] at hf
  | succ fuel ih =>
    intro x2 y2 hf J0
    rw [l_X1_behindSpaces_2] at hf
    refine U_iload_n (n := 3) 1 C dX1_behindSpaces_2 rfl rfl ?_
    refine U_aload_n (n := 4) 0 C dX1_behindSpaces_3 rfl rfl rfl ?_
    refine gf_RX1_15 (n := 7) C dX1_behindSpaces_4 hf rfl (fun v1 hf => ?_)
    refine U_icge (tgt := 27) (n := 10) C dX1_behindSpaces_7 (by decide) rfl (fun c2 => ?_) (fun c2 => ?_)
    · replace hf := (if_pos c2).symm.trans hf
      have hr := Option.some.inj hf
      subst hr
      exact U_lv [1] rfl J0
    · replace hf := (if_neg c2).symm.trans hf
      refine U_aload_n (n := 11) 0 C dX1_behindSpaces_10 rfl rfl rfl ?_
      refine gf_RX1_9 (n := 14) C dX1_behindSpaces_11 hf rfl (fun v3 hf => ?_)
      refine U_iload_n (n := 15) 1 C dX1_behindSpaces_14 rfl rfl ?_
      refine U_iald (n := 16) C dX1_behindSpaces_15 hf rfl (fun v4 hf => ?_)
      refine U_bipush (n := 18) (32 : Int32) C dX1_behindSpaces_16 kbipush_32 rfl ?_
      refine U_icne (tgt := 27) (n := 21) C dX1_behindSpaces_18 (by decide) rfl (fun c5 => ?_) (fun c5 => ?_)
      · replace hf := (if_pos c5).symm.trans hf
        refine U_iinc (n := 24) (v := (x2 + 1)) (lv2 := [(2, .int (x2 + 1)), (0, .ref p0)]) 1 C dX1_behindSpaces_21 rfl rfl (by decide) rfl rfl ?_
        refine U_goto (n := 0) (tgt := 2) C dX1_behindSpaces_24 (by decide) ?_
        exact U_lv [1, 0] rfl (ih hf J0)
      · replace hf := (if_neg c5).symm.trans hf
        have hr := Option.some.inj hf
        subst hr
        exact U_lv [1] rfl J0
theorem rc_X1_behindSpaces {o : Nat} {a1 : Int32} {h : Hp} {z} (hf : f_X1_behindSpaces o a1 h = some z) : rc 1 h o = some () := by
  unfold f_X1_behindSpaces at hf
  exact (bsome hf).choose_spec.1
set_option maxHeartbeats 2000000 in
set_option maxRecDepth 20000 in
theorem M_X1_behindSpaces {g : GT} {o : Nat} {a1 : Int32} {h : Hp} {r : Int32} (hf : f_X1_behindSpaces o a1 h = some r) : CM g yX1_behindSpaces cX1_behindSpaces 3 (some .int) 6 0 0 [.ref o, .int a1] h (.inr (some (.int r))) h := by
  refine CM_of rfl (fun _ => Nat.le_of_ble_eq_true rfl) (fun Γ C hn0 => ?_)
  have C : Cx g Γ cX1_behindSpaces RX1 "behindSpaces" 3 (some .int) 6 0 0 := C
  generalize hQ : Qe g Γ (.inr (some (.int r))) h 0 0 = Q
  show U g Γ 3 Q 0 0 0 [(0, .ref o), (1, .int a1)] [] h
  unfold f_X1_behindSpaces at hf
  replace hf := (bsome hf).choose_spec.2
  refine U_iload_n (n := 1) 1 C dX1_behindSpaces_0 rfl rfl ?_
  refine U_istore_n (n := 2) (lv2 := [(2, .int a1), (0, .ref o), (1, .int a1)]) C dX1_behindSpaces_1 (by decide) rfl rfl ?_
  refine U_join1 (fun v6 => U g Γ 3 Q 0 0 27 [(2, .int v6)] [] h) hf (fun v6 hf => ?_) (fun v6 hf J => U_lv [1, 0] rfl (L_X1_behindSpaces_2 C hf J))
  refine U_iload_n (n := 28) 0 C dX1_behindSpaces_27 rfl rfl ?_
  have hr := (Option.some.inj hf)
  subst hr
  subst hQ
  exact U_iret C dX1_behindSpaces_28 (Nat.le_refl 0) (Nat.le_refl 0)
def l_X1_behindLetters_2 (p0 : Nat) (h : Hp) : Nat → Int32 → Option Int32
  | 0, _ => none
  | fuel + 1, x2 =>
    (fI 1 1 h p0).bind fun v1 =>
    if v1 ≤ x2 then (
      some x2
    ) else (
      (fR 1 0 h p0).bind fun v3 =>
      (aI h v3 x2).bind fun v4 =>
      if v4 < (97 : Int32) then (
        some x2
      ) else (
        (fR 1 0 h p0).bind fun v6 =>
        (aI h v6 x2).bind fun v7 =>
        if (122 : Int32) < v7 then (
          some x2
        ) else (
          l_X1_behindLetters_2 p0 h fuel (x2 + 1)
        )
      )
    )
def f_X1_behindLetters (o : Nat) (a1 : Int32) (h : Hp) : Option Int32 :=
  (rc 1 h o).bind fun _ =>
  (l_X1_behindLetters_2 o h FU a1).bind fun v9 =>
  some (v9)
set_option maxHeartbeats 2000000 in
set_option maxRecDepth 20000 in
theorem L_X1_behindLetters_2 {g : GT} {Γ : CT} {Q : State → Prop} {mc ms : Nat} (C : Cx g Γ cX1_behindLetters RX1 "behindLetters" 3 (some .int) 6 mc ms) {p0 : Nat} {h : Hp} : ∀ {fuel : Nat} {x2 : Int32} {y2 : Int32}, l_X1_behindLetters_2 p0 h fuel x2 = some y2 → U g Γ 3 Q 0 0 38 [(2, .int y2)] [] h → U g Γ 3 Q 0 0 2 [(0, .ref p0), (2, .int x2)] [] h := by
  intro fuel
  induction fuel with
  | zero =>
    intro x2 y2 hf J0
    simp only [l_X1_behindLetters_2, reduceCtorEq] at hf
  | succ fuel ih =>
    intro x2 y2 hf J0
    rw [l_X1_behindLetters_2] at hf
    refine U_iload_n (n := 3) 1 C dX1_behindLetters_2 rfl rfl ?_
    refine U_aload_n (n := 4) 0 C dX1_behindLetters_3 rfl rfl rfl ?_
    refine gf_RX1_15 (n := 7) C dX1_behindLetters_4 hf rfl (fun v1 hf => ?_)
    refine U_icge (tgt := 38) (n := 10) C dX1_behindLetters_7 (by decide) rfl (fun c2 => ?_) (fun c2 => ?_)
    · replace hf := (if_pos c2).symm.trans hf
      have hr := Option.some.inj hf
      subst hr
      exact U_lv [1] rfl J0
    · replace hf := (if_neg c2).symm.trans hf
      refine U_aload_n (n := 11) 0 C dX1_behindLetters_10 rfl rfl rfl ?_
      refine gf_RX1_9 (n := 14) C dX1_behindLetters_11 hf rfl (fun v3 hf => ?_)
      refine U_iload_n (n := 15) 1 C dX1_behindLetters_14 rfl rfl ?_
      refine U_iald (n := 16) C dX1_behindLetters_15 hf rfl (fun v4 hf => ?_)
      refine U_bipush (n := 18) (97 : Int32) C dX1_behindLetters_16 kbipush_97 rfl ?_
      refine U_iclt (tgt := 38) (n := 21) C dX1_behindLetters_18 (by decide) rfl (fun c5 => ?_) (fun c5 => ?_)
      · replace hf := (if_pos c5).symm.trans hf
        have hr := Option.some.inj hf
        subst hr
        exact U_lv [1] rfl J0
      · replace hf := (if_neg c5).symm.trans hf
        refine U_aload_n (n := 22) 0 C dX1_behindLetters_21 rfl rfl rfl ?_
        refine gf_RX1_9 (n := 25) C dX1_behindLetters_22 hf rfl (fun v6 hf => ?_)
        refine U_iload_n (n := 26) 1 C dX1_behindLetters_25 rfl rfl ?_
        refine U_iald (n := 27) C dX1_behindLetters_26 hf rfl (fun v7 hf => ?_)
        refine U_bipush (n := 29) (122 : Int32) C dX1_behindLetters_27 kbipush_122 rfl ?_
        refine U_icgt (tgt := 38) (n := 32) C dX1_behindLetters_29 (by decide) rfl (fun c8 => ?_) (fun c8 => ?_)
        · replace hf := (if_pos c8).symm.trans hf
          have hr := Option.some.inj hf
          subst hr
          exact U_lv [1] rfl J0
        · replace hf := (if_neg c8).symm.trans hf
          refine U_iinc (n := 35) (v := (x2 + 1)) (lv2 := [(2, .int (x2 + 1)), (0, .ref p0)]) 1 C dX1_behindLetters_32 rfl rfl (by decide) rfl rfl ?_
          refine U_goto (n := 0) (tgt := 2) C dX1_behindLetters_35 (by decide) ?_
          exact U_lv [1, 0] rfl (ih hf J0)
theorem rc_X1_behindLetters {o : Nat} {a1 : Int32} {h : Hp} {z} (hf : f_X1_behindLetters o a1 h = some z) : rc 1 h o = some () := by
  unfold f_X1_behindLetters at hf
  exact (bsome hf).choose_spec.1
set_option maxHeartbeats 2000000 in
set_option maxRecDepth 20000 in
theorem M_X1_behindLetters {g : GT} {o : Nat} {a1 : Int32} {h : Hp} {r : Int32} (hf : f_X1_behindLetters o a1 h = some r) : CM g yX1_behindLetters cX1_behindLetters 3 (some .int) 6 0 0 [.ref o, .int a1] h (.inr (some (.int r))) h := by
  refine CM_of rfl (fun _ => Nat.le_of_ble_eq_true rfl) (fun Γ C hn0 => ?_)
  have C : Cx g Γ cX1_behindLetters RX1 "behindLetters" 3 (some .int) 6 0 0 := C
  generalize hQ : Qe g Γ (.inr (some (.int r))) h 0 0 = Q
  show U g Γ 3 Q 0 0 0 [(0, .ref o), (1, .int a1)] [] h
  unfold f_X1_behindLetters at hf
  replace hf := (bsome hf).choose_spec.2
  refine U_iload_n (n := 1) 1 C dX1_behindLetters_0 rfl rfl ?_
  refine U_istore_n (n := 2) (lv2 := [(2, .int a1), (0, .ref o), (1, .int a1)]) C dX1_behindLetters_1 (by decide) rfl rfl ?_
  refine U_join1 (fun v9 => U g Γ 3 Q 0 0 38 [(2, .int v9)] [] h) hf (fun v9 hf => ?_) (fun v9 hf J => U_lv [1, 0] rfl (L_X1_behindLetters_2 C hf J))
  refine U_iload_n (n := 39) 0 C dX1_behindLetters_38 rfl rfl ?_
  have hr := (Option.some.inj hf)
  subst hr
  subst hQ
  exact U_iret C dX1_behindLetters_39 (Nat.le_refl 0) (Nat.le_refl 0)
def f_X1_spelling (a0 : Int32) : Option UInt32 :=
  if a0 = 0 then (
    some ((0 : UInt32))
  ) else (
  if a0 = 1 then (
    some ((1 : UInt32))
  ) else (
  if a0 = 2 then (
    some ((2 : UInt32))
  ) else (
  if a0 = 3 then (
    some ((3 : UInt32))
  ) else (
  if a0 = 4 then (
    some ((4 : UInt32))
  ) else (
    some ((5 : UInt32))
  )))))
set_option maxHeartbeats 2000000 in
set_option maxRecDepth 20000 in
theorem M_X1_spelling {g : GT} {a0 : Int32} {h : Hp} {r : UInt32} (hf : f_X1_spelling a0 = some r) : CM g yX1_spelling cX1_spelling 1 (some (.object "java/lang/String")) 6 0 0 [.int a0] h (.inr (some (.float r))) h := by
  refine CM_of rfl (fun _ => Nat.le_of_ble_eq_true rfl) (fun Γ C hn0 => ?_)
  have C : Cx g Γ cX1_spelling RX1 "spelling" 1 (some (.object "java/lang/String")) 6 0 0 := C
  generalize hQ : Qe g Γ (.inr (some (.float r))) h 0 0 = Q
  show U g Γ 1 Q 0 0 0 [(0, .int a0)] [] h
  unfold f_X1_spelling at hf
  refine U_iload_n (n := 1) 0 C dX1_spelling_0 rfl rfl ?_
  by_cases c1 : a0 = 0
  · replace hf := (if_pos c1).symm.trans hf
    refine U_tblIn (tgt := 36) C dX1_spelling_1 (by rw [c1]; decide) (by rw [c1]; decide) (by rw [c1]; rfl) (by decide) ?_
    refine U_ldcS (n := 38) (x := 0) C dX1_spelling_36 kS_72 rfl (by decide) rfl ?_
    have hr := (Option.some.inj hf)
    subst hr
    subst hQ
    exact U_aret C dX1_spelling_38 rfl (Nat.le_refl 0) (Nat.le_refl 0)
  replace hf := (if_neg c1).symm.trans hf
  by_cases c2 : a0 = 1
  · replace hf := (if_pos c2).symm.trans hf
    refine U_tblIn (tgt := 39) C dX1_spelling_1 (by rw [c2]; decide) (by rw [c2]; decide) (by rw [c2]; rfl) (by decide) ?_
    refine U_ldcS (n := 41) (x := 1) C dX1_spelling_39 kS_74 rfl (by decide) rfl ?_
    have hr := (Option.some.inj hf)
    subst hr
    subst hQ
    exact U_aret C dX1_spelling_41 rfl (Nat.le_refl 0) (Nat.le_refl 0)
  replace hf := (if_neg c2).symm.trans hf
  by_cases c3 : a0 = 2
  · replace hf := (if_pos c3).symm.trans hf
    refine U_tblIn (tgt := 42) C dX1_spelling_1 (by rw [c3]; decide) (by rw [c3]; decide) (by rw [c3]; rfl) (by decide) ?_
    refine U_ldcS (n := 44) (x := 2) C dX1_spelling_42 kS_76 rfl (by decide) rfl ?_
    have hr := (Option.some.inj hf)
    subst hr
    subst hQ
    exact U_aret C dX1_spelling_44 rfl (Nat.le_refl 0) (Nat.le_refl 0)
  replace hf := (if_neg c3).symm.trans hf
  by_cases c4 : a0 = 3
  · replace hf := (if_pos c4).symm.trans hf
    refine U_tblIn (tgt := 45) C dX1_spelling_1 (by rw [c4]; decide) (by rw [c4]; decide) (by rw [c4]; rfl) (by decide) ?_
    refine U_ldcS (n := 47) (x := 3) C dX1_spelling_45 kS_78 rfl (by decide) rfl ?_
    have hr := (Option.some.inj hf)
    subst hr
    subst hQ
    exact U_aret C dX1_spelling_47 rfl (Nat.le_refl 0) (Nat.le_refl 0)
  replace hf := (if_neg c4).symm.trans hf
  by_cases c5 : a0 = 4
  · replace hf := (if_pos c5).symm.trans hf
    refine U_tblIn (tgt := 48) C dX1_spelling_1 (by rw [c5]; decide) (by rw [c5]; decide) (by rw [c5]; rfl) (by decide) ?_
    refine U_ldcS (n := 50) (x := 4) C dX1_spelling_48 kS_80 rfl (by decide) rfl ?_
    have hr := (Option.some.inj hf)
    subst hr
    subst hQ
    exact U_aret C dX1_spelling_50 rfl (Nat.le_refl 0) (Nat.le_refl 0)
  replace hf := (if_neg c5).symm.trans hf
  have hn6 : (a0).toInt < 0 ∨ 4 < (a0).toInt := by
    have := i32_ne c1
    have := i32_ne c2
    have := i32_ne c3
    have := i32_ne c4
    have := i32_ne c5
    simp only [Int32.reduceToInt] at *
    omega
  refine U_tblOut (tgt := 51) C dX1_spelling_1 hn6 (by decide) ?_
  refine U_ldcS (n := 53) (x := 5) C dX1_spelling_51 kS_82 rfl (by decide) rfl ?_
  have hr := (Option.some.inj hf)
  subst hr
  subst hQ
  exact U_aret C dX1_spelling_53 rfl (Nat.le_refl 0) (Nat.le_refl 0)
def l_X1_isSpelled_15 (p0 : Nat) (p1 : UInt32) (p2 : Int32) (h : Hp) : Nat → Int32 → Option (Unit ⊕ Int32)
  | 0, _ => none
  | fuel + 1, x4 =>
    (sLen p1).bind fun v3 =>
    if v3 ≤ x4 then (
      some (.inl ())
    ) else (
      (sCh p1 x4).bind fun v5 =>
      (fR 1 0 h p0).bind fun v6 =>
      (aI h v6 (p2 + x4)).bind fun v7 =>
      if v5 = v7 then (
        l_X1_isSpelled_15 p0 p1 p2 h fuel (x4 + 1)
      ) else (
        some (.inr ((0 : Int32)))
      )
    )
def f_X1_isSpelled (o : Nat) (a1 : UInt32) (a2 : Int32) (a3 : Int32) (h : Hp) : Option Int32 :=
  (rc 1 h o).bind fun _ =>
  (sLen a1).bind fun v1 =>
  if v1 = (a3 - a2) then (
    bindR0 (l_X1_isSpelled_15 o a1 a2 h FU (0 : Int32)) fun _ =>
    some ((1 : Int32))
  ) else (
    some ((0 : Int32))
  )
set_option maxHeartbeats 2000000 in
set_option maxRecDepth 20000 in
theorem L_X1_isSpelled_15 {g : GT} {Γ : CT} {Q : State → Prop} {mc ms : Nat} (C : Cx g Γ cX1_isSpelled RX1 "isSpelled" 5 (some .boolean) 6 mc ms) {p0 : Nat} {p1 : UInt32} {p2 : Int32} {h : Hp} : ∀ {fuel : Nat} {x4 : Int32} {out : (Unit ⊕ Int32)}, l_X1_isSpelled_15 p0 p1 p2 h fuel x4 = some out → (out = .inl () → U g Γ 5 Q 0 0 50 [] [] h) → (∀ r, out = .inr r → Qe g Γ (.inr (some (.int r))) h 0 0 = Q) → U g Γ 5 Q 0 0 15 [(0, .ref p0), (1, .float p1), (2, .int p2), (4, .int x4)] [] h := by
  intro fuel
  induction fuel with
  | zero =>
    intro x4 out hf J0 R0
    simp only [l_X1_isSpelled_15, reduceCtorEq] at hf
  | succ fuel ih =>
    intro x4 out hf J0 R0
    rw [l_X1_isSpelled_15] at hf
    refine U_iload (n := 17) 3 C dX1_isSpelled_15 rfl rfl ?_
    refine U_aload_n (n := 18) 1 C dX1_isSpelled_17 rfl rfl rfl ?_
    refine U_slen_RX1_63 (n := 21) C dX1_isSpelled_18 (by decide) (Nat.le_of_ble_eq_true rfl) hf rfl (fun v3 hf => ?_)
    refine U_icge (tgt := 50) (n := 24) C dX1_isSpelled_21 (by decide) rfl (fun c4 => ?_) (fun c4 => ?_)
    · replace hf := (if_pos c4).symm.trans hf
      have hr := Option.some.inj hf
      subst hr
      exact U_lv [] rfl (J0 rfl)
    · replace hf := (if_neg c4).symm.trans hf
      refine U_aload_n (n := 25) 1 C dX1_isSpelled_24 rfl rfl rfl ?_
      refine U_iload (n := 27) 3 C dX1_isSpelled_25 rfl rfl ?_
      refine U_sch_RX1_68 (n := 30) C dX1_isSpelled_27 (by decide) (Nat.le_of_ble_eq_true rfl) hf rfl (fun v5 hf => ?_)
      refine U_aload_n (n := 31) 0 C dX1_isSpelled_30 rfl rfl rfl ?_
      refine gf_RX1_9 (n := 34) C dX1_isSpelled_31 hf rfl (fun v6 hf => ?_)
      refine U_iload_n (n := 35) 2 C dX1_isSpelled_34 rfl rfl ?_
      refine U_iload (n := 37) 3 C dX1_isSpelled_35 rfl rfl ?_
      refine U_iadd (n := 38) C dX1_isSpelled_37 rfl ?_
      refine U_iald (n := 39) C dX1_isSpelled_38 hf rfl (fun v7 hf => ?_)
      refine U_iceq (tgt := 44) (n := 42) C dX1_isSpelled_39 (by decide) rfl (fun c8 => ?_) (fun c8 => ?_)
      · replace hf := (if_pos c8).symm.trans hf
        refine U_iinc (n := 47) (v := (x4 + 1)) (lv2 := [(4, .int (x4 + 1)), (0, .ref p0), (1, .float p1), (2, .int p2)]) 3 C dX1_isSpelled_44 rfl rfl (by decide) rfl rfl ?_
        refine U_goto (n := 0) (tgt := 15) C dX1_isSpelled_47 (by decide) ?_
        exact U_lv [1, 2, 3, 0] rfl (ih hf J0 R0)
      · replace hf := (if_neg c8).symm.trans hf
        refine U_iconst (n := 43) (0 : Int32) C dX1_isSpelled_42 kiconst_0 rfl ?_
        have hr := Option.some.inj hf
        subst hr
        have hQ := R0 _ rfl
        subst hQ
        exact U_zret C dX1_isSpelled_43 (Or.inl rfl) (Nat.le_refl 0) (Nat.le_refl 0)
theorem rc_X1_isSpelled {o : Nat} {a1 : UInt32} {a2 : Int32} {a3 : Int32} {h : Hp} {z} (hf : f_X1_isSpelled o a1 a2 a3 h = some z) : rc 1 h o = some () := by
  unfold f_X1_isSpelled at hf
  exact (bsome hf).choose_spec.1
set_option maxHeartbeats 2000000 in
set_option maxRecDepth 20000 in
theorem M_X1_isSpelled {g : GT} {o : Nat} {a1 : UInt32} {a2 : Int32} {a3 : Int32} {h : Hp} {r : Int32} (hf : f_X1_isSpelled o a1 a2 a3 h = some r) : CM g yX1_isSpelled cX1_isSpelled 5 (some .boolean) 6 0 0 [.ref o, .float a1, .int a2, .int a3] h (.inr (some (.int r))) h := by
  refine CM_of rfl (fun _ => Nat.le_of_ble_eq_true rfl) (fun Γ C hn0 => ?_)
  have C : Cx g Γ cX1_isSpelled RX1 "isSpelled" 5 (some .boolean) 6 0 0 := C
  generalize hQ : Qe g Γ (.inr (some (.int r))) h 0 0 = Q
  show U g Γ 5 Q 0 0 0 [(0, .ref o), (1, .float a1), (2, .int a2), (3, .int a3)] [] h
  unfold f_X1_isSpelled at hf
  replace hf := (bsome hf).choose_spec.2
  refine U_aload_n (n := 1) 1 C dX1_isSpelled_0 rfl rfl rfl ?_
  refine U_slen_RX1_63 (n := 4) C dX1_isSpelled_1 (by decide) (Nat.le_of_ble_eq_true rfl) hf rfl (fun v1 hf => ?_)
  refine U_iload_n (n := 5) 3 C dX1_isSpelled_4 rfl rfl ?_
  refine U_iload_n (n := 6) 2 C dX1_isSpelled_5 rfl rfl ?_
  refine U_isub (n := 7) C dX1_isSpelled_6 rfl ?_
  refine U_iceq (tgt := 12) (n := 10) C dX1_isSpelled_7 (by decide) rfl (fun c2 => ?_) (fun c2 => ?_)
  · replace hf := (if_pos c2).symm.trans hf
    refine U_iconst (n := 13) (0 : Int32) C dX1_isSpelled_12 kiconst_0 rfl ?_
    refine U_istore (n := 15) (lv2 := [(4, .int (0 : Int32)), (0, .ref o), (1, .float a1), (2, .int a2), (3, .int a3)]) C dX1_isSpelled_13 (by decide) rfl rfl ?_
    refine U_joinR0 (U g Γ 5 Q 0 0 50 [] [] h) hf (fun hf => ?_) (fun o11 hf J9 R10 => U_lv [1, 2, 3, 0] rfl (L_X1_isSpelled_15 C hf J9 ?_))
    rotate_left
    · intro r hr
      have hr := (R10 r hr)
      subst hr
      exact hQ
    refine U_iconst (n := 51) (1 : Int32) C dX1_isSpelled_50 kiconst_1 rfl ?_
    have hr := (Option.some.inj hf)
    subst hr
    subst hQ
    exact U_zret C dX1_isSpelled_51 (Or.inr rfl) (Nat.le_refl 0) (Nat.le_refl 0)
  · replace hf := (if_neg c2).symm.trans hf
    refine U_iconst (n := 11) (0 : Int32) C dX1_isSpelled_10 kiconst_0 rfl ?_
    have hr := (Option.some.inj hf)
    subst hr
    subst hQ
    exact U_zret C dX1_isSpelled_11 (Or.inl rfl) (Nat.le_refl 0) (Nat.le_refl 0)
def l_X1_wordBetween_2 (p0 : Nat) (p1 : Int32) (p2 : Int32) (h : Hp) : Nat → Int32 → Option (Unit ⊕ Int32)
  | 0, _ => none
  | fuel + 1, x3 =>
    if (6 : Int32) ≤ x3 then (
      some (.inl ())
    ) else (
      (f_X1_spelling x3).bind fun v2 =>
      (f_X1_isSpelled p0 v2 p1 p2 h).bind fun v3 =>
      if v3 = 0 then (
        l_X1_wordBetween_2 p0 p1 p2 h fuel (x3 + 1)
      ) else (
        some (.inr (x3))
      )
    )
def f_X1_wordBetween (o : Nat) (a1 : Int32) (a2 : Int32) (h : Hp) : Option Int32 :=
  (rc 1 h o).bind fun _ =>
  bindR0 (l_X1_wordBetween_2 o a1 a2 h FU (0 : Int32)) fun _ =>
  some ((-1 : Int32))
set_option maxHeartbeats 2000000 in
set_option maxRecDepth 20000 in
theorem L_X1_wordBetween_2 {g : GT} {Γ : CT} {Q : State → Prop} {mc ms : Nat} (C : Cx g Γ cX1_wordBetween RX1 "wordBetween" 4 (some .int) 7 mc ms) {p0 : Nat} {p1 : Int32} {p2 : Int32} {h : Hp} : ∀ {fuel : Nat} {x3 : Int32} {out : (Unit ⊕ Int32)}, l_X1_wordBetween_2 p0 p1 p2 h fuel x3 = some out → (out = .inl () → U g Γ 4 Q 0 0 29 [] [] h) → (∀ r, out = .inr r → Qe g Γ (.inr (some (.int r))) h 0 0 = Q) → U g Γ 4 Q 0 0 2 [(0, .ref p0), (1, .int p1), (2, .int p2), (3, .int x3)] [] h := by
  intro fuel
  induction fuel with
  | zero =>
    intro x3 out hf J0 R0
    simp only [l_X1_wordBetween_2, reduceCtorEq] at hf
  | succ fuel ih =>
    intro x3 out hf J0 R0
    rw [l_X1_wordBetween_2] at hf
    refine U_iload_n (n := 3) 3 C dX1_wordBetween_2 rfl rfl ?_
    refine U_bipush (n := 5) (6 : Int32) C dX1_wordBetween_3 kbipush_6 rfl ?_
    refine U_icge (tgt := 29) (n := 8) C dX1_wordBetween_5 (by decide) rfl (fun c1 => ?_) (fun c1 => ?_)
    · replace hf := (if_pos c1).symm.trans hf
      have hr := Option.some.inj hf
      subst hr
      exact U_lv [] rfl (J0 rfl)
    · replace hf := (if_neg c1).symm.trans hf
      refine U_aload_n (n := 9) 0 C dX1_wordBetween_8 rfl rfl rfl ?_
      refine U_iload_n (n := 10) 3 C dX1_wordBetween_9 rfl rfl ?_
      obtain ⟨v2, ev2, hf⟩ := bsome hf
      refine cv_RX1_55 (n := 13) C dX1_wordBetween_10 (av := [.int x3]) rfl (M_X1_spelling ev2) (Nat.le_of_ble_eq_true rfl) (Nat.zero_le _) (Nat.zero_le _) (Nat.le_of_ble_eq_true rfl) rfl ?_
      refine U_iload_n (n := 14) 1 C dX1_wordBetween_13 rfl rfl ?_
      refine U_iload_n (n := 15) 2 C dX1_wordBetween_14 rfl rfl ?_
      obtain ⟨v3, ev3, hf⟩ := bsome hf
      refine cv_RX1_59 (n := 18) C dX1_wordBetween_15 (av := [.float v2, .int p1, .int p2]) rfl (rc_X1_isSpelled ev3) (M_X1_isSpelled ev3) (Nat.le_of_ble_eq_true rfl) (Nat.zero_le _) (Nat.zero_le _) (Nat.le_of_ble_eq_true rfl) rfl ?_
      refine U_ifeq (tgt := 23) (n := 21) C dX1_wordBetween_18 (by decide) rfl (fun c4 => ?_) (fun c4 => ?_)
      · replace hf := (if_pos c4).symm.trans hf
        refine U_iinc (n := 26) (v := (x3 + 1)) (lv2 := [(3, .int (x3 + 1)), (0, .ref p0), (1, .int p1), (2, .int p2)]) 3 C dX1_wordBetween_23 rfl rfl (by decide) rfl rfl ?_
        refine U_goto (n := 0) (tgt := 2) C dX1_wordBetween_26 (by decide) ?_
        exact U_lv [1, 2, 3, 0] rfl (ih hf J0 R0)
      · replace hf := (if_neg c4).symm.trans hf
        refine U_iload_n (n := 22) 3 C dX1_wordBetween_21 rfl rfl ?_
        have hr := Option.some.inj hf
        subst hr
        have hQ := R0 _ rfl
        subst hQ
        exact U_iret C dX1_wordBetween_22 (Nat.le_refl 0) (Nat.le_refl 0)
theorem rc_X1_wordBetween {o : Nat} {a1 : Int32} {a2 : Int32} {h : Hp} {z} (hf : f_X1_wordBetween o a1 a2 h = some z) : rc 1 h o = some () := by
  unfold f_X1_wordBetween at hf
  exact (bsome hf).choose_spec.1
set_option maxHeartbeats 2000000 in
set_option maxRecDepth 20000 in
theorem M_X1_wordBetween {g : GT} {o : Nat} {a1 : Int32} {a2 : Int32} {h : Hp} {r : Int32} (hf : f_X1_wordBetween o a1 a2 h = some r) : CM g yX1_wordBetween cX1_wordBetween 4 (some .int) 7 0 0 [.ref o, .int a1, .int a2] h (.inr (some (.int r))) h := by
  refine CM_of rfl (fun _ => Nat.le_of_ble_eq_true rfl) (fun Γ C hn0 => ?_)
  have C : Cx g Γ cX1_wordBetween RX1 "wordBetween" 4 (some .int) 7 0 0 := C
  generalize hQ : Qe g Γ (.inr (some (.int r))) h 0 0 = Q
  show U g Γ 4 Q 0 0 0 [(0, .ref o), (1, .int a1), (2, .int a2)] [] h
  unfold f_X1_wordBetween at hf
  replace hf := (bsome hf).choose_spec.2
  refine U_iconst (n := 1) (0 : Int32) C dX1_wordBetween_0 kiconst_0 rfl ?_
  refine U_istore_n (n := 2) (lv2 := [(3, .int (0 : Int32)), (0, .ref o), (1, .int a1), (2, .int a2)]) C dX1_wordBetween_1 (by decide) rfl rfl ?_
  refine U_joinR0 (U g Γ 4 Q 0 0 29 [] [] h) hf (fun hf => ?_) (fun o7 hf J5 R6 => U_lv [1, 2, 3, 0] rfl (L_X1_wordBetween_2 C hf J5 ?_))
  rotate_left
  · intro r hr
    have hr := (R6 r hr)
    subst hr
    exact hQ
  refine U_iconst (n := 30) (-1 : Int32) C dX1_wordBetween_29 kiconst_m1 rfl ?_
  have hr := (Option.some.inj hf)
  subst hr
  subst hQ
  exact U_iret C dX1_wordBetween_30 (Nat.le_refl 0) (Nat.le_refl 0)
def f_X1_tellFault (a0 : Int32) : Option Int32 :=
  some (((-1 : Int32) - a0))
set_option maxHeartbeats 2000000 in
set_option maxRecDepth 20000 in
theorem M_X1_tellFault {g : GT} {a0 : Int32} {h : Hp} {r : Int32} (hf : f_X1_tellFault a0 = some r) : CM g yX1_tellFault cX1_tellFault 1 (some .int) 6 0 0 [.int a0] h (.inr (some (.int r))) h := by
  refine CM_of rfl (fun _ => Nat.le_of_ble_eq_true rfl) (fun Γ C hn0 => ?_)
  have C : Cx g Γ cX1_tellFault RX1 "tellFault" 1 (some .int) 6 0 0 := C
  generalize hQ : Qe g Γ (.inr (some (.int r))) h 0 0 = Q
  show U g Γ 1 Q 0 0 0 [(0, .int a0)] [] h
  unfold f_X1_tellFault at hf
  refine U_iconst (n := 1) (-1 : Int32) C dX1_tellFault_0 kiconst_m1 rfl ?_
  refine U_iload_n (n := 2) 0 C dX1_tellFault_1 rfl rfl ?_
  refine U_isub (n := 3) C dX1_tellFault_2 rfl ?_
  have hr := (Option.some.inj hf)
  subst hr
  subst hQ
  exact U_iret C dX1_tellFault_3 (Nat.le_refl 0) (Nat.le_refl 0)
def f_X1_hasNames (a0 : Int32) : Option Int32 :=
  if a0 = (4 : Int32) then (
    some ((0 : Int32))
  ) else (
    if a0 = (5 : Int32) then (
      some ((0 : Int32))
    ) else (
      some ((1 : Int32))
    )
  )
set_option maxHeartbeats 2000000 in
set_option maxRecDepth 20000 in
theorem M_X1_hasNames {g : GT} {a0 : Int32} {h : Hp} {r : Int32} (hf : f_X1_hasNames a0 = some r) : CM g yX1_hasNames cX1_hasNames 1 (some .boolean) 6 0 0 [.int a0] h (.inr (some (.int r))) h := by
  refine CM_of rfl (fun _ => Nat.le_of_ble_eq_true rfl) (fun Γ C hn0 => ?_)
  have C : Cx g Γ cX1_hasNames RX1 "hasNames" 1 (some .boolean) 6 0 0 := C
  generalize hQ : Qe g Γ (.inr (some (.int r))) h 0 0 = Q
  show U g Γ 1 Q 0 0 0 [(0, .int a0)] [] h
  unfold f_X1_hasNames at hf
  refine U_iload_n (n := 1) 0 C dX1_hasNames_0 rfl rfl ?_
  refine U_iconst (n := 2) (4 : Int32) C dX1_hasNames_1 kiconst_4 rfl ?_
  refine U_iceq (tgt := 14) (n := 5) C dX1_hasNames_2 (by decide) rfl (fun c1 => ?_) (fun c1 => ?_)
  · replace hf := (if_pos c1).symm.trans hf
    refine U_iconst (n := 15) (0 : Int32) C dX1_hasNames_14 kiconst_0 rfl ?_
    have hr := (Option.some.inj hf)
    subst hr
    subst hQ
    exact U_zret C dX1_hasNames_15 (Or.inl rfl) (Nat.le_refl 0) (Nat.le_refl 0)
  · replace hf := (if_neg c1).symm.trans hf
    refine U_iload_n (n := 6) 0 C dX1_hasNames_5 rfl rfl ?_
    refine U_iconst (n := 7) (5 : Int32) C dX1_hasNames_6 kiconst_5 rfl ?_
    refine U_iceq (tgt := 14) (n := 10) C dX1_hasNames_7 (by decide) rfl (fun c2 => ?_) (fun c2 => ?_)
    · replace hf := (if_pos c2).symm.trans hf
      refine U_iconst (n := 15) (0 : Int32) C dX1_hasNames_14 kiconst_0 rfl ?_
      have hr := (Option.some.inj hf)
      subst hr
      subst hQ
      exact U_zret C dX1_hasNames_15 (Or.inl rfl) (Nat.le_refl 0) (Nat.le_refl 0)
    · replace hf := (if_neg c2).symm.trans hf
      refine U_iconst (n := 11) (1 : Int32) C dX1_hasNames_10 kiconst_1 rfl ?_
      refine U_goto (n := 0) (tgt := 15) C dX1_hasNames_11 (by decide) ?_
      have hr := (Option.some.inj hf)
      subst hr
      subst hQ
      exact U_zret C dX1_hasNames_15 (Or.inr rfl) (Nat.le_refl 0) (Nat.le_refl 0)
def l_X1_behindNames_18 (p0 : Nat) : Nat → Int32 → Int32 → Hp → Option ((Int32 × Hp) ⊕ (Int32 × Hp))
  | 0, _, _, _ => none
  | fuel + 1, x2, x3, h =>
    if (3 : Int32) ≤ x3 then (
      some (.inl (x2, h))
    ) else (
      (fI 1 1 h p0).bind fun v5 =>
      if v5 ≤ x2 then (
        (f_X1_tellFault x2).bind fun v7 =>
        some (.inr ((v7, h)))
      ) else (
        (fR 1 0 h p0).bind fun v8 =>
        (aI h v8 x2).bind fun v9 =>
        if v9 < (97 : Int32) then (
          (f_X1_tellFault x2).bind fun v11 =>
          some (.inr ((v11, h)))
        ) else (
          (fR 1 0 h p0).bind fun v12 =>
          (aI h v12 x2).bind fun v13 =>
          if v13 ≤ (104 : Int32) then (
            (fR 1 3 h p0).bind fun v15 =>
            (fI 1 4 h p0).bind fun v16 =>
            (fR 1 0 h p0).bind fun v17 =>
            (aI h v17 x2).bind fun v18 =>
            (wI h v15 ((v16 * (3 : Int32)) + x3) (v18 - (97 : Int32))).bind fun h19 =>
            l_X1_behindNames_18 p0 fuel (x2 + 1) (x3 + 1) h19
          ) else (
            (f_X1_tellFault x2).bind fun v20 =>
            some (.inr ((v20, h)))
          )
        )
      )
    )
def f_X1_behindNames (o : Nat) (a1 : Int32) (h : Hp) : Option (Int32 × Hp) :=
  (rc 1 h o).bind fun _ =>
  (f_X1_behindSpaces o a1 h).bind fun v1 =>
  if v1 = a1 then (
    (f_X1_tellFault a1).bind fun v3 =>
    some ((v3, h))
  ) else (
    bindR2 (l_X1_behindNames_18 o FU v1 (0 : Int32) h) fun v21 h22 =>
    some ((v21, h22))
  )
set_option maxHeartbeats 2000000 in
set_option maxRecDepth 20000 in
theorem L_X1_behindNames_18 {g : GT} {Γ : CT} {Q : State → Prop} {mc ms : Nat} (C : Cx g Γ cX1_behindNames RX1 "behindNames" 4 (some .int) 7 mc ms) {p0 : Nat} : ∀ {fuel : Nat} {x2 : Int32} {x3 : Int32} {h : Hp} {out : ((Int32 × Hp) ⊕ (Int32 × Hp))}, l_X1_behindNames_18 p0 fuel x2 x3 h = some out → (∀ y2 hy, out = .inl (y2, hy) → U g Γ 4 Q 0 0 89 [(2, .int y2)] [] hy) → (∀ r, out = .inr r → Qe g Γ (.inr (some (.int r.1))) r.2 0 0 = Q) → U g Γ 4 Q 0 0 18 [(0, .ref p0), (2, .int x2), (3, .int x3)] [] h := by
  intro fuel
  induction fuel with
  | zero =>
    intro x2 x3 h out hf J0 R0
    simp only [l_X1_behindNames_18, reduceCtorEq] at hf
  | succ fuel ih =>
    intro x2 x3 h out hf J0 R0
    rw [l_X1_behindNames_18] at hf
    refine U_iload_n (n := 19) 2 C dX1_behindNames_18 rfl rfl ?_
    refine U_iconst (n := 20) (3 : Int32) C dX1_behindNames_19 kiconst_3 rfl ?_
    refine U_icge (tgt := 89) (n := 23) C dX1_behindNames_20 (by decide) rfl (fun c4 => ?_) (fun c4 => ?_)
    · replace hf := (if_pos c4).symm.trans hf
      have hr := Option.some.inj hf
      subst hr
      exact U_lv [1] rfl (J0 _ _ rfl)
    · replace hf := (if_neg c4).symm.trans hf
      refine U_iload_n (n := 24) 1 C dX1_behindNames_23 rfl rfl ?_
      refine U_aload_n (n := 25) 0 C dX1_behindNames_24 rfl rfl rfl ?_
      refine gf_RX1_15 (n := 28) C dX1_behindNames_25 hf rfl (fun v5 hf => ?_)
      refine U_icge (tgt := 53) (n := 31) C dX1_behindNames_28 (by decide) rfl (fun c6 => ?_) (fun c6 => ?_)
      · replace hf := (if_pos c6).symm.trans hf
        refine U_iload_n (n := 54) 1 C dX1_behindNames_53 rfl rfl ?_
        obtain ⟨v7, ev7, hf⟩ := bsome hf
        refine cv_RX1_45 (n := 57) C dX1_behindNames_54 (av := [.int x2]) rfl (M_X1_tellFault ev7) (Nat.le_of_ble_eq_true rfl) (Nat.zero_le _) (Nat.zero_le _) (Nat.le_of_ble_eq_true rfl) rfl ?_
        have hr := Option.some.inj hf
        subst hr
        have hQ := R0 _ rfl
        subst hQ
        exact U_iret C dX1_behindNames_57 (Nat.le_refl 0) (Nat.le_refl 0)
      · replace hf := (if_neg c6).symm.trans hf
        refine U_aload_n (n := 32) 0 C dX1_behindNames_31 rfl rfl rfl ?_
        refine gf_RX1_9 (n := 35) C dX1_behindNames_32 hf rfl (fun v8 hf => ?_)
        refine U_iload_n (n := 36) 1 C dX1_behindNames_35 rfl rfl ?_
        refine U_iald (n := 37) C dX1_behindNames_36 hf rfl (fun v9 hf => ?_)
        refine U_bipush (n := 39) (97 : Int32) C dX1_behindNames_37 kbipush_97 rfl ?_
        refine U_iclt (tgt := 53) (n := 42) C dX1_behindNames_39 (by decide) rfl (fun c10 => ?_) (fun c10 => ?_)
        · replace hf := (if_pos c10).symm.trans hf
          refine U_iload_n (n := 54) 1 C dX1_behindNames_53 rfl rfl ?_
          obtain ⟨v11, ev11, hf⟩ := bsome hf
          refine cv_RX1_45 (n := 57) C dX1_behindNames_54 (av := [.int x2]) rfl (M_X1_tellFault ev11) (Nat.le_of_ble_eq_true rfl) (Nat.zero_le _) (Nat.zero_le _) (Nat.le_of_ble_eq_true rfl) rfl ?_
          have hr := Option.some.inj hf
          subst hr
          have hQ := R0 _ rfl
          subst hQ
          exact U_iret C dX1_behindNames_57 (Nat.le_refl 0) (Nat.le_refl 0)
        · replace hf := (if_neg c10).symm.trans hf
          refine U_aload_n (n := 43) 0 C dX1_behindNames_42 rfl rfl rfl ?_
          refine gf_RX1_9 (n := 46) C dX1_behindNames_43 hf rfl (fun v12 hf => ?_)
          refine U_iload_n (n := 47) 1 C dX1_behindNames_46 rfl rfl ?_
          refine U_iald (n := 48) C dX1_behindNames_47 hf rfl (fun v13 hf => ?_)
          refine U_bipush (n := 50) (104 : Int32) C dX1_behindNames_48 kbipush_104 rfl ?_
          refine U_icle (tgt := 58) (n := 53) C dX1_behindNames_50 (by decide) rfl (fun c14 => ?_) (fun c14 => ?_)
          · replace hf := (if_pos c14).symm.trans hf
            refine U_aload_n (n := 59) 0 C dX1_behindNames_58 rfl rfl rfl ?_
            refine gf_RX1_22 (n := 62) C dX1_behindNames_59 hf rfl (fun v15 hf => ?_)
            refine U_aload_n (n := 63) 0 C dX1_behindNames_62 rfl rfl rfl ?_
            refine gf_RX1_25 (n := 66) C dX1_behindNames_63 hf rfl (fun v16 hf => ?_)
            refine U_iconst (n := 67) (3 : Int32) C dX1_behindNames_66 kiconst_3 rfl ?_
            refine U_imul (n := 68) C dX1_behindNames_67 rfl ?_
            refine U_iload_n (n := 69) 2 C dX1_behindNames_68 rfl rfl ?_
            refine U_iadd (n := 70) C dX1_behindNames_69 rfl ?_
            refine U_aload_n (n := 71) 0 C dX1_behindNames_70 rfl rfl rfl ?_
            refine gf_RX1_9 (n := 74) C dX1_behindNames_71 hf rfl (fun v17 hf => ?_)
            refine U_iload_n (n := 75) 1 C dX1_behindNames_74 rfl rfl ?_
            refine U_iald (n := 76) C dX1_behindNames_75 hf rfl (fun v18 hf => ?_)
            refine U_bipush (n := 78) (97 : Int32) C dX1_behindNames_76 kbipush_97 rfl ?_
            refine U_isub (n := 79) C dX1_behindNames_78 rfl ?_
            refine U_iast (n := 80) C dX1_behindNames_79 hf rfl (fun h19 hf => ?_)
            refine U_iinc (n := 83) (v := (x2 + 1)) (lv2 := [(2, .int (x2 + 1)), (0, .ref p0), (3, .int x3)]) 1 C dX1_behindNames_80 rfl rfl (by decide) rfl rfl ?_
            refine U_iinc (n := 86) (v := (x3 + 1)) (lv2 := [(3, .int (x3 + 1)), (2, .int (x2 + 1)), (0, .ref p0)]) 2 C dX1_behindNames_83 rfl rfl (by decide) rfl rfl ?_
            refine U_goto (n := 0) (tgt := 18) C dX1_behindNames_86 (by decide) ?_
            exact U_lv [2, 1, 0] rfl (ih hf J0 R0)
          · replace hf := (if_neg c14).symm.trans hf
            refine U_iload_n (n := 54) 1 C dX1_behindNames_53 rfl rfl ?_
            obtain ⟨v20, ev20, hf⟩ := bsome hf
            refine cv_RX1_45 (n := 57) C dX1_behindNames_54 (av := [.int x2]) rfl (M_X1_tellFault ev20) (Nat.le_of_ble_eq_true rfl) (Nat.zero_le _) (Nat.zero_le _) (Nat.le_of_ble_eq_true rfl) rfl ?_
            have hr := Option.some.inj hf
            subst hr
            have hQ := R0 _ rfl
            subst hQ
            exact U_iret C dX1_behindNames_57 (Nat.le_refl 0) (Nat.le_refl 0)
theorem rc_X1_behindNames {o : Nat} {a1 : Int32} {h : Hp} {z} (hf : f_X1_behindNames o a1 h = some z) : rc 1 h o = some () := by
  unfold f_X1_behindNames at hf
  exact (bsome hf).choose_spec.1
set_option maxHeartbeats 2000000 in
set_option maxRecDepth 20000 in
theorem M_X1_behindNames {g : GT} {o : Nat} {a1 : Int32} {h : Hp} {r : Int32} {h2 : Hp} (hf : f_X1_behindNames o a1 h = some (r, h2)) : CM g yX1_behindNames cX1_behindNames 4 (some .int) 7 0 0 [.ref o, .int a1] h (.inr (some (.int r))) h2 := by
  refine CM_of rfl (fun _ => Nat.le_of_ble_eq_true rfl) (fun Γ C hn0 => ?_)
  have C : Cx g Γ cX1_behindNames RX1 "behindNames" 4 (some .int) 7 0 0 := C
  generalize hQ : Qe g Γ (.inr (some (.int r))) h2 0 0 = Q
  show U g Γ 4 Q 0 0 0 [(0, .ref o), (1, .int a1)] [] h
  unfold f_X1_behindNames at hf
  replace hf := (bsome hf).choose_spec.2
  refine U_aload_n (n := 1) 0 C dX1_behindNames_0 rfl rfl rfl ?_
  refine U_iload_n (n := 2) 1 C dX1_behindNames_1 rfl rfl ?_
  obtain ⟨v1, ev1, hf⟩ := bsome hf
  refine cv_RX1_28 (n := 5) C dX1_behindNames_2 (av := [.int a1]) rfl (rc_X1_behindSpaces ev1) (M_X1_behindSpaces ev1) (Nat.le_of_ble_eq_true rfl) (Nat.zero_le _) (Nat.zero_le _) (Nat.le_of_ble_eq_true rfl) rfl ?_
  refine U_istore_n (n := 6) (lv2 := [(2, .int v1), (0, .ref o), (1, .int a1)]) C dX1_behindNames_5 (by decide) rfl rfl ?_
  refine U_iload_n (n := 7) 0 C dX1_behindNames_6 rfl rfl ?_
  refine U_iload_n (n := 8) 2 C dX1_behindNames_7 rfl rfl ?_
  refine U_icne (tgt := 16) (n := 11) C dX1_behindNames_8 (by decide) rfl (fun c2 => ?_) (fun c2 => ?_)
  · replace hf := (if_pos c2).symm.trans hf
    refine U_iload_n (n := 12) 2 C dX1_behindNames_11 rfl rfl ?_
    obtain ⟨v3, ev3, hf⟩ := bsome hf
    refine cv_RX1_45 (n := 15) C dX1_behindNames_12 (av := [.int a1]) rfl (M_X1_tellFault ev3) (Nat.le_of_ble_eq_true rfl) (Nat.zero_le _) (Nat.zero_le _) (Nat.le_of_ble_eq_true rfl) rfl ?_
    obtain ⟨hr1, hr2⟩ := Prod.mk.inj (Option.some.inj hf)
    subst hr1; subst hr2
    subst hQ
    exact U_iret C dX1_behindNames_15 (Nat.le_refl 0) (Nat.le_refl 0)
  · replace hf := (if_neg c2).symm.trans hf
    refine U_iconst (n := 17) (0 : Int32) C dX1_behindNames_16 kiconst_0 rfl ?_
    refine U_istore_n (n := 18) (lv2 := [(3, .int (0 : Int32)), (2, .int v1), (0, .ref o), (1, .int a1)]) C dX1_behindNames_17 (by decide) rfl rfl ?_
    refine U_joinR2 (fun v21 h22 => U g Γ 4 Q 0 0 89 [(2, .int v21)] [] h22) hf (fun v21 h22 hf => ?_) (fun o25 hf J23 R24 => U_lv [2, 1, 0] rfl (L_X1_behindNames_18 C hf J23 ?_))
    rotate_left
    · intro r hr
      have hr2 := (R24 r hr)
      subst hr2
      exact hQ
    refine U_iload_n (n := 90) 0 C dX1_behindNames_89 rfl rfl ?_
    obtain ⟨hr1, hr2⟩ := Prod.mk.inj (Option.some.inj hf)
    subst hr1; subst hr2
    subst hQ
    exact U_iret C dX1_behindNames_90 (Nat.le_refl 0) (Nat.le_refl 0)
def f_X1_behindCommand (o : Nat) (a1 : Int32) (h : Hp) : Option (Int32 × Hp) :=
  (rc 1 h o).bind fun _ =>
  (f_X1_behindLetters o a1 h).bind fun v1 =>
  (f_X1_wordBetween o a1 v1 h).bind fun v2 =>
  if v2 = (-1 : Int32) then (
    (f_X1_tellFault a1).bind fun v4 =>
    some ((v4, h))
  ) else (
    (fR 1 2 h o).bind fun v5 =>
    (fI 1 4 h o).bind fun v6 =>
    (wI h v5 v6 v2).bind fun h7 =>
    (f_X1_hasNames v2).bind fun v8 =>
    bindR2 (
      if v8 = 0 then (
        some (Sum.inl (v1, h7))
      ) else (
        bind2 (f_X1_behindNames o v1 h7) fun v23 h24 =>
        if 0 ≤ v23 then (
          some (Sum.inl (v23, h24))
        ) else (
          some (.inr ((v23, h24)))
        )
      )
    ) fun v10 h11 =>
    (f_X1_behindSpaces o v10 h11).bind fun v15 =>
    (fI 1 1 h11 o).bind fun v16 =>
    if v16 ≤ v15 then (
      (f_X1_tellFault v15).bind fun v18 =>
      some ((v18, h11))
    ) else (
      (fR 1 0 h11 o).bind fun v19 =>
      (aI h11 v19 v15).bind fun v20 =>
      if v20 = (59 : Int32) then (
        some (((v15 + (1 : Int32)), h11))
      ) else (
        (f_X1_tellFault v15).bind fun v22 =>
        some ((v22, h11))
      )
    )
  )
theorem rc_X1_behindCommand {o : Nat} {a1 : Int32} {h : Hp} {z} (hf : f_X1_behindCommand o a1 h = some z) : rc 1 h o = some () := by
  unfold f_X1_behindCommand at hf
  exact (bsome hf).choose_spec.1
set_option maxHeartbeats 2000000 in
set_option maxRecDepth 20000 in
theorem M_X1_behindCommand {g : GT} {o : Nat} {a1 : Int32} {h : Hp} {r : Int32} {h2 : Hp} (hf : f_X1_behindCommand o a1 h = some (r, h2)) : CM g yX1_behindCommand cX1_behindCommand 4 (some .int) 8 0 0 [.ref o, .int a1] h (.inr (some (.int r))) h2 := by
  refine CM_of rfl (fun _ => Nat.le_of_ble_eq_true rfl) (fun Γ C hn0 => ?_)
  have C : Cx g Γ cX1_behindCommand RX1 "behindCommand" 4 (some .int) 8 0 0 := C
  generalize hQ : Qe g Γ (.inr (some (.int r))) h2 0 0 = Q
  show U g Γ 4 Q 0 0 0 [(0, .ref o), (1, .int a1)] [] h
  unfold f_X1_behindCommand at hf
  replace hf := (bsome hf).choose_spec.2
  refine U_aload_n (n := 1) 0 C dX1_behindCommand_0 rfl rfl rfl ?_
  refine U_iload_n (n := 2) 1 C dX1_behindCommand_1 rfl rfl ?_
  obtain ⟨v1, ev1, hf⟩ := bsome hf
  refine cv_RX1_38 (n := 5) C dX1_behindCommand_2 (av := [.int a1]) rfl (rc_X1_behindLetters ev1) (M_X1_behindLetters ev1) (Nat.le_of_ble_eq_true rfl) (Nat.zero_le _) (Nat.zero_le _) (Nat.le_of_ble_eq_true rfl) rfl ?_
  refine U_istore_n (n := 6) (lv2 := [(2, .int v1), (0, .ref o), (1, .int a1)]) C dX1_behindCommand_5 (by decide) rfl rfl ?_
  refine U_aload_n (n := 7) 1 C dX1_behindCommand_6 rfl rfl rfl ?_
  refine U_iload_n (n := 8) 2 C dX1_behindCommand_7 rfl rfl ?_
  refine U_iload_n (n := 9) 0 C dX1_behindCommand_8 rfl rfl ?_
  obtain ⟨v2, ev2, hf⟩ := bsome hf
  refine cv_RX1_41 (n := 12) C dX1_behindCommand_9 (av := [.int a1, .int v1]) rfl (rc_X1_wordBetween ev2) (M_X1_wordBetween ev2) (Nat.le_of_ble_eq_true rfl) (Nat.zero_le _) (Nat.zero_le _) (Nat.le_of_ble_eq_true rfl) rfl ?_
  refine U_istore_n (n := 13) (lv2 := [(3, .int v2), (2, .int v1), (0, .ref o), (1, .int a1)]) C dX1_behindCommand_12 (by decide) rfl rfl ?_
  refine U_iload_n (n := 14) 0 C dX1_behindCommand_13 rfl rfl ?_
  refine U_iconst (n := 15) (-1 : Int32) C dX1_behindCommand_14 kiconst_m1 rfl ?_
  refine U_icne (tgt := 23) (n := 18) C dX1_behindCommand_15 (by decide) rfl (fun c3 => ?_) (fun c3 => ?_)
  · replace hf := (if_pos c3).symm.trans hf
    refine U_iload_n (n := 19) 3 C dX1_behindCommand_18 rfl rfl ?_
    obtain ⟨v4, ev4, hf⟩ := bsome hf
    refine cv_RX1_45 (n := 22) C dX1_behindCommand_19 (av := [.int a1]) rfl (M_X1_tellFault ev4) (Nat.le_of_ble_eq_true rfl) (Nat.zero_le _) (Nat.zero_le _) (Nat.le_of_ble_eq_true rfl) rfl ?_
    obtain ⟨hr1, hr2⟩ := Prod.mk.inj (Option.some.inj hf)
    subst hr1; subst hr2
    subst hQ
    exact U_iret C dX1_behindCommand_22 (Nat.le_refl 0) (Nat.le_refl 0)
  · replace hf := (if_neg c3).symm.trans hf
    refine U_aload_n (n := 24) 2 C dX1_behindCommand_23 rfl rfl rfl ?_
    refine gf_RX1_19 (n := 27) C dX1_behindCommand_24 hf rfl (fun v5 hf => ?_)
    refine U_aload_n (n := 28) 2 C dX1_behindCommand_27 rfl rfl rfl ?_
    refine gf_RX1_25 (n := 31) C dX1_behindCommand_28 hf rfl (fun v6 hf => ?_)
    refine U_iload_n (n := 32) 0 C dX1_behindCommand_31 rfl rfl ?_
    refine U_iast (n := 33) C dX1_behindCommand_32 hf rfl (fun h7 hf => ?_)
    refine U_iload_n (n := 34) 0 C dX1_behindCommand_33 rfl rfl ?_
    obtain ⟨v8, ev8, hf⟩ := bsome hf
    refine cv_RX1_48 (n := 37) C dX1_behindCommand_34 (av := [.int v2]) rfl (M_X1_hasNames ev8) (Nat.le_of_ble_eq_true rfl) (Nat.zero_le _) (Nat.zero_le _) (Nat.le_of_ble_eq_true rfl) rfl ?_
    refine U_joinR2 (fun v10 h11 => U g Γ 4 Q 0 0 52 [(0, .ref o), (2, .int v10)] [] h11) hf (fun v10 h11 hf => ?_) (fun o12 hf J13 R14 => ?_)
    · skip
      refine U_aload_n (n := 53) 0 C dX1_behindCommand_52 rfl rfl rfl ?_
      refine U_iload_n (n := 54) 1 C dX1_behindCommand_53 rfl rfl ?_
      obtain ⟨v15, ev15, hf⟩ := bsome hf
      refine cv_RX1_28 (n := 57) C dX1_behindCommand_54 (av := [.int v10]) rfl (rc_X1_behindSpaces ev15) (M_X1_behindSpaces ev15) (Nat.le_of_ble_eq_true rfl) (Nat.zero_le _) (Nat.zero_le _) (Nat.le_of_ble_eq_true rfl) rfl ?_
      refine U_istore_n (n := 58) (lv2 := [(2, .int v15), (0, .ref o)]) C dX1_behindCommand_57 (by decide) rfl rfl ?_
      refine U_iload_n (n := 59) 0 C dX1_behindCommand_58 rfl rfl ?_
      refine U_aload_n (n := 60) 1 C dX1_behindCommand_59 rfl rfl rfl ?_
      refine gf_RX1_15 (n := 63) C dX1_behindCommand_60 hf rfl (fun v16 hf => ?_)
      refine U_icge (tgt := 77) (n := 66) C dX1_behindCommand_63 (by decide) rfl (fun c17 => ?_) (fun c17 => ?_)
      · replace hf := (if_pos c17).symm.trans hf
        refine U_iload_n (n := 78) 0 C dX1_behindCommand_77 rfl rfl ?_
        obtain ⟨v18, ev18, hf⟩ := bsome hf
        refine cv_RX1_45 (n := 81) C dX1_behindCommand_78 (av := [.int v15]) rfl (M_X1_tellFault ev18) (Nat.le_of_ble_eq_true rfl) (Nat.zero_le _) (Nat.zero_le _) (Nat.le_of_ble_eq_true rfl) rfl ?_
        obtain ⟨hr1, hr2⟩ := Prod.mk.inj (Option.some.inj hf)
        subst hr1; subst hr2
        subst hQ
        exact U_iret C dX1_behindCommand_81 (Nat.le_refl 0) (Nat.le_refl 0)
      · replace hf := (if_neg c17).symm.trans hf
        refine U_aload_n (n := 67) 1 C dX1_behindCommand_66 rfl rfl rfl ?_
        refine gf_RX1_9 (n := 70) C dX1_behindCommand_67 hf rfl (fun v19 hf => ?_)
        refine U_iload_n (n := 71) 0 C dX1_behindCommand_70 rfl rfl ?_
        refine U_iald (n := 72) C dX1_behindCommand_71 hf rfl (fun v20 hf => ?_)
        refine U_bipush (n := 74) (59 : Int32) C dX1_behindCommand_72 kbipush_59 rfl ?_
        refine U_iceq (tgt := 82) (n := 77) C dX1_behindCommand_74 (by decide) rfl (fun c21 => ?_) (fun c21 => ?_)
        · replace hf := (if_pos c21).symm.trans hf
          refine U_iload_n (n := 83) 0 C dX1_behindCommand_82 rfl rfl ?_
          refine U_iconst (n := 84) (1 : Int32) C dX1_behindCommand_83 kiconst_1 rfl ?_
          refine U_iadd (n := 85) C dX1_behindCommand_84 rfl ?_
          obtain ⟨hr1, hr2⟩ := Prod.mk.inj (Option.some.inj hf)
          subst hr1; subst hr2
          subst hQ
          exact U_iret C dX1_behindCommand_85 (Nat.le_refl 0) (Nat.le_refl 0)
        · replace hf := (if_neg c21).symm.trans hf
          refine U_iload_n (n := 78) 0 C dX1_behindCommand_77 rfl rfl ?_
          obtain ⟨v22, ev22, hf⟩ := bsome hf
          refine cv_RX1_45 (n := 81) C dX1_behindCommand_78 (av := [.int v15]) rfl (M_X1_tellFault ev22) (Nat.le_of_ble_eq_true rfl) (Nat.zero_le _) (Nat.zero_le _) (Nat.le_of_ble_eq_true rfl) rfl ?_
          obtain ⟨hr1, hr2⟩ := Prod.mk.inj (Option.some.inj hf)
          subst hr1; subst hr2
          subst hQ
          exact U_iret C dX1_behindCommand_81 (Nat.le_refl 0) (Nat.le_refl 0)
    · skip
      refine U_ifeq (tgt := 52) (n := 40) C dX1_behindCommand_37 (by decide) rfl (fun c9 => ?_) (fun c9 => ?_)
      · replace hf := (if_pos c9).symm.trans hf
        have hr := Option.some.inj hf
        subst hr
        exact U_lv [2, 1] rfl (J13 _ _ rfl)
      · replace hf := (if_neg c9).symm.trans hf
        refine U_aload_n (n := 41) 2 C dX1_behindCommand_40 rfl rfl rfl ?_
        refine U_iload_n (n := 42) 1 C dX1_behindCommand_41 rfl rfl ?_
        obtain ⟨v23, h24, ev23, hf⟩ := bsome2 hf
        refine cv_RX1_52 (n := 45) C dX1_behindCommand_42 (av := [.int v1]) rfl (rc_X1_behindNames ev23) (M_X1_behindNames ev23) (Nat.le_of_ble_eq_true rfl) (Nat.zero_le _) (Nat.zero_le _) (Nat.le_of_ble_eq_true rfl) rfl ?_
        refine U_istore_n (n := 46) (lv2 := [(2, .int v23), (3, .int v2), (0, .ref o), (1, .int a1)]) C dX1_behindCommand_45 (by decide) rfl rfl ?_
        refine U_iload_n (n := 47) 0 C dX1_behindCommand_46 rfl rfl ?_
        refine U_ifge (tgt := 52) (n := 50) C dX1_behindCommand_47 (by decide) rfl (fun c25 => ?_) (fun c25 => ?_)
        · replace hf := (if_pos c25).symm.trans hf
          have hr := Option.some.inj hf
          subst hr
          exact U_lv [2, 0] rfl (J13 _ _ rfl)
        · replace hf := (if_neg c25).symm.trans hf
          refine U_iload_n (n := 51) 0 C dX1_behindCommand_50 rfl rfl ?_
          have hr := Option.some.inj hf
          subst hr
          obtain ⟨hr1, hr2⟩ := Prod.mk.inj (R14 _ rfl)
          subst hr1; subst hr2
          subst hQ
          exact U_iret C dX1_behindCommand_51 (Nat.le_refl 0) (Nat.le_refl 0)
def f_X1_faultIn (a0 : Int32) : Option Int32 :=
  some (((-1 : Int32) - a0))
set_option maxHeartbeats 2000000 in
set_option maxRecDepth 20000 in
theorem M_X1_faultIn {g : GT} {a0 : Int32} {h : Hp} {r : Int32} (hf : f_X1_faultIn a0 = some r) : CM g yX1_faultIn cX1_faultIn 1 (some .int) 6 0 0 [.int a0] h (.inr (some (.int r))) h := by
  refine CM_of rfl (fun _ => Nat.le_of_ble_eq_true rfl) (fun Γ C hn0 => ?_)
  have C : Cx g Γ cX1_faultIn RX1 "faultIn" 1 (some .int) 6 0 0 := C
  generalize hQ : Qe g Γ (.inr (some (.int r))) h 0 0 = Q
  show U g Γ 1 Q 0 0 0 [(0, .int a0)] [] h
  unfold f_X1_faultIn at hf
  refine U_iconst (n := 1) (-1 : Int32) C dX1_faultIn_0 kiconst_m1 rfl ?_
  refine U_iload_n (n := 2) 0 C dX1_faultIn_1 rfl rfl ?_
  refine U_isub (n := 3) C dX1_faultIn_2 rfl ?_
  have hr := (Option.some.inj hf)
  subst hr
  subst hQ
  exact U_iret C dX1_faultIn_3 (Nat.le_refl 0) (Nat.le_refl 0)
def l_X1_parse_11 (p0 : Nat) : Nat → Int32 → Hp → Option (Hp ⊕ (Int32 × Hp))
  | 0, _, _ => none
  | fuel + 1, x1, h =>
    (fI 1 1 h p0).bind fun v3 =>
    if v3 ≤ x1 then (
      some (.inl h)
    ) else (
      (fI 1 4 h p0).bind fun v5 =>
      if (120 : Int32) ≤ v5 then (
        some (.inl h)
      ) else (
        bind2 (f_X1_behindCommand p0 x1 h) fun v7 h8 =>
        if 0 ≤ v7 then (
          (fI 1 4 h8 p0).bind fun v10 =>
          (sF 1 4 (.int (v10 + (1 : Int32))) h8 p0).bind fun h11 =>
          (f_X1_behindSpaces p0 v7 h11).bind fun v12 =>
          l_X1_parse_11 p0 fuel v12 h11
        ) else (
          (f_X1_faultIn v7).bind fun v13 =>
          some (.inr ((v13, h8)))
        )
      )
    )
def f_X1_parse (o : Nat) (h : Hp) : Option (Int32 × Hp) :=
  (rc 1 h o).bind fun _ =>
  (sF 1 4 (.int (0 : Int32)) h o).bind fun h1 =>
  (f_X1_behindSpaces o (0 : Int32) h1).bind fun v2 =>
  bindR1 (l_X1_parse_11 o FU v2 h1) fun h14 =>
  some (((-100 : Int32), h14))
set_option maxHeartbeats 2000000 in
set_option maxRecDepth 20000 in
theorem L_X1_parse_11 {g : GT} {Γ : CT} {Q : State → Prop} {mc ms : Nat} (C : Cx g Γ cX1_parse RX1 "parse" 3 (some .int) 9 mc ms) {p0 : Nat} : ∀ {fuel : Nat} {x1 : Int32} {h : Hp} {out : (Hp ⊕ (Int32 × Hp))}, l_X1_parse_11 p0 fuel x1 h = some out → (∀ hy, out = .inl hy → U g Γ 3 Q 0 0 62 [] [] hy) → (∀ r, out = .inr r → Qe g Γ (.inr (some (.int r.1))) r.2 0 0 = Q) → U g Γ 3 Q 0 0 11 [(0, .ref p0), (1, .int x1)] [] h := by
  intro fuel
  induction fuel with
  | zero =>
    intro x1 h out hf J0 R0
    simp only [l_X1_parse_11, reduceCtorEq] at hf
  | succ fuel ih =>
    intro x1 h out hf J0 R0
    rw [l_X1_parse_11] at hf
    refine U_iload_n (n := 12) 1 C dX1_parse_11 rfl rfl ?_
    refine U_aload_n (n := 13) 0 C dX1_parse_12 rfl rfl rfl ?_
    refine gf_RX1_15 (n := 16) C dX1_parse_13 hf rfl (fun v3 hf => ?_)
    refine U_icge (tgt := 62) (n := 19) C dX1_parse_16 (by decide) rfl (fun c4 => ?_) (fun c4 => ?_)
    · replace hf := (if_pos c4).symm.trans hf
      have hr := Option.some.inj hf
      subst hr
      exact U_lv [] rfl (J0 _ rfl)
    · replace hf := (if_neg c4).symm.trans hf
      refine U_aload_n (n := 20) 0 C dX1_parse_19 rfl rfl rfl ?_
      refine gf_RX1_25 (n := 23) C dX1_parse_20 hf rfl (fun v5 hf => ?_)
      refine U_bipush (n := 25) (120 : Int32) C dX1_parse_23 kbipush_120 rfl ?_
      refine U_icge (tgt := 62) (n := 28) C dX1_parse_25 (by decide) rfl (fun c6 => ?_) (fun c6 => ?_)
      · replace hf := (if_pos c6).symm.trans hf
        have hr := Option.some.inj hf
        subst hr
        exact U_lv [] rfl (J0 _ rfl)
      · replace hf := (if_neg c6).symm.trans hf
        refine U_aload_n (n := 29) 0 C dX1_parse_28 rfl rfl rfl ?_
        refine U_iload_n (n := 30) 1 C dX1_parse_29 rfl rfl ?_
        obtain ⟨v7, h8, ev7, hf⟩ := bsome2 hf
        refine cv_RX1_32 (n := 33) C dX1_parse_30 (av := [.int x1]) rfl (rc_X1_behindCommand ev7) (M_X1_behindCommand ev7) (Nat.le_of_ble_eq_true rfl) (Nat.zero_le _) (Nat.zero_le _) (Nat.le_of_ble_eq_true rfl) rfl ?_
        refine U_istore_n (n := 34) (lv2 := [(2, .int v7), (0, .ref p0), (1, .int x1)]) C dX1_parse_33 (by decide) rfl rfl ?_
        refine U_iload_n (n := 35) 0 C dX1_parse_34 rfl rfl ?_
        refine U_ifge (tgt := 43) (n := 38) C dX1_parse_35 (by decide) rfl (fun c9 => ?_) (fun c9 => ?_)
        · replace hf := (if_pos c9).symm.trans hf
          refine U_aload_n (n := 44) 1 C dX1_parse_43 rfl rfl rfl ?_
          refine U_dup (n := 45) C dX1_parse_44 rfl rfl ?_
          refine gf_RX1_25 (n := 48) C dX1_parse_45 hf rfl (fun v10 hf => ?_)
          refine U_iconst (n := 49) (1 : Int32) C dX1_parse_48 kiconst_1 rfl ?_
          refine U_iadd (n := 50) C dX1_parse_49 rfl ?_
          refine pf_RX1_25 (n := 53) C dX1_parse_50 hf rfl (fun h11 hf => ?_)
          refine U_aload_n (n := 54) 1 C dX1_parse_53 rfl rfl rfl ?_
          refine U_iload_n (n := 55) 0 C dX1_parse_54 rfl rfl ?_
          obtain ⟨v12, ev12, hf⟩ := bsome hf
          refine cv_RX1_28 (n := 58) C dX1_parse_55 (av := [.int v7]) rfl (rc_X1_behindSpaces ev12) (M_X1_behindSpaces ev12) (Nat.le_of_ble_eq_true rfl) (Nat.zero_le _) (Nat.zero_le _) (Nat.le_of_ble_eq_true rfl) rfl ?_
          refine U_istore_n (n := 59) (lv2 := [(1, .int v12), (2, .int v7), (0, .ref p0)]) C dX1_parse_58 (by decide) rfl rfl ?_
          refine U_goto (n := 0) (tgt := 11) C dX1_parse_59 (by decide) ?_
          exact U_lv [2, 0] rfl (ih hf J0 R0)
        · replace hf := (if_neg c9).symm.trans hf
          refine U_iload_n (n := 39) 0 C dX1_parse_38 rfl rfl ?_
          obtain ⟨v13, ev13, hf⟩ := bsome hf
          refine cv_RX1_35 (n := 42) C dX1_parse_39 (av := [.int v7]) rfl (M_X1_faultIn ev13) (Nat.le_of_ble_eq_true rfl) (Nat.zero_le _) (Nat.zero_le _) (Nat.le_of_ble_eq_true rfl) rfl ?_
          have hr := Option.some.inj hf
          subst hr
          have hQ := R0 _ rfl
          subst hQ
          exact U_iret C dX1_parse_42 (Nat.le_refl 0) (Nat.le_refl 0)
theorem rc_X1_parse {o : Nat} {h : Hp} {z} (hf : f_X1_parse o h = some z) : rc 1 h o = some () := by
  unfold f_X1_parse at hf
  exact (bsome hf).choose_spec.1
set_option maxHeartbeats 2000000 in
set_option maxRecDepth 20000 in
theorem M_X1_parse {g : GT} {o : Nat} {h : Hp} {r : Int32} {h2 : Hp} (hf : f_X1_parse o h = some (r, h2)) : CM g yX1_parse cX1_parse 3 (some .int) 9 0 0 [.ref o] h (.inr (some (.int r))) h2 := by
  refine CM_of rfl (fun _ => Nat.le_of_ble_eq_true rfl) (fun Γ C hn0 => ?_)
  have C : Cx g Γ cX1_parse RX1 "parse" 3 (some .int) 9 0 0 := C
  generalize hQ : Qe g Γ (.inr (some (.int r))) h2 0 0 = Q
  show U g Γ 3 Q 0 0 0 [(0, .ref o)] [] h
  unfold f_X1_parse at hf
  replace hf := (bsome hf).choose_spec.2
  refine U_aload_n (n := 1) 0 C dX1_parse_0 rfl rfl rfl ?_
  refine U_iconst (n := 2) (0 : Int32) C dX1_parse_1 kiconst_0 rfl ?_
  refine pf_RX1_25 (n := 5) C dX1_parse_2 hf rfl (fun h1 hf => ?_)
  refine U_aload_n (n := 6) 0 C dX1_parse_5 rfl rfl rfl ?_
  refine U_iconst (n := 7) (0 : Int32) C dX1_parse_6 kiconst_0 rfl ?_
  obtain ⟨v2, ev2, hf⟩ := bsome hf
  refine cv_RX1_28 (n := 10) C dX1_parse_7 (av := [.int (0 : Int32)]) rfl (rc_X1_behindSpaces ev2) (M_X1_behindSpaces ev2) (Nat.le_of_ble_eq_true rfl) (Nat.zero_le _) (Nat.zero_le _) (Nat.le_of_ble_eq_true rfl) rfl ?_
  refine U_istore_n (n := 11) (lv2 := [(1, .int v2), (0, .ref o)]) C dX1_parse_10 (by decide) rfl rfl ?_
  refine U_joinR1 (fun h14 => U g Γ 3 Q 0 0 62 [] [] h14) hf (fun h14 hf => ?_) (fun o17 hf J15 R16 => U_lv [1, 0] rfl (L_X1_parse_11 C hf J15 ?_))
  rotate_left
  · intro r hr
    have hr2 := (R16 r hr)
    subst hr2
    exact hQ
  refine U_bipush (n := 64) (-100 : Int32) C dX1_parse_62 kbipush_m100 rfl ?_
  obtain ⟨hr1, hr2⟩ := Prod.mk.inj (Option.some.inj hf)
  subst hr1; subst hr2
  subst hQ
  exact U_iret C dX1_parse_64 (Nat.le_refl 0) (Nat.le_refl 0)
def f_X1_name (o : Nat) (a1 : Int32) (a2 : Int32) (h : Hp) : Option Int32 :=
  (rc 1 h o).bind fun _ =>
  (fR 1 3 h o).bind fun v1 =>
  (aI h v1 ((a1 * (3 : Int32)) + a2)).bind fun v2 =>
  some (v2)
theorem rc_X1_name {o : Nat} {a1 : Int32} {a2 : Int32} {h : Hp} {z} (hf : f_X1_name o a1 a2 h = some z) : rc 1 h o = some () := by
  unfold f_X1_name at hf
  exact (bsome hf).choose_spec.1
set_option maxHeartbeats 2000000 in
set_option maxRecDepth 20000 in
theorem M_X1_name {g : GT} {o : Nat} {a1 : Int32} {a2 : Int32} {h : Hp} {r : Int32} (hf : f_X1_name o a1 a2 h = some r) : CM g yX1_name cX1_name 3 (some .int) 6 0 0 [.ref o, .int a1, .int a2] h (.inr (some (.int r))) h := by
  refine CM_of rfl (fun _ => Nat.le_of_ble_eq_true rfl) (fun Γ C hn0 => ?_)
  have C : Cx g Γ cX1_name RX1 "name" 3 (some .int) 6 0 0 := C
  generalize hQ : Qe g Γ (.inr (some (.int r))) h 0 0 = Q
  show U g Γ 3 Q 0 0 0 [(0, .ref o), (1, .int a1), (2, .int a2)] [] h
  unfold f_X1_name at hf
  replace hf := (bsome hf).choose_spec.2
  refine U_aload_n (n := 1) 0 C dX1_name_0 rfl rfl rfl ?_
  refine gf_RX1_22 (n := 4) C dX1_name_1 hf rfl (fun v1 hf => ?_)
  refine U_iload_n (n := 5) 1 C dX1_name_4 rfl rfl ?_
  refine U_iconst (n := 6) (3 : Int32) C dX1_name_5 kiconst_3 rfl ?_
  refine U_imul (n := 7) C dX1_name_6 rfl ?_
  refine U_iload_n (n := 8) 2 C dX1_name_7 rfl rfl ?_
  refine U_iadd (n := 9) C dX1_name_8 rfl ?_
  refine U_iald (n := 10) C dX1_name_9 hf rfl (fun v2 hf => ?_)
  have hr := (Option.some.inj hf)
  subst hr
  subst hQ
  exact U_iret C dX1_name_10 (Nat.le_refl 0) (Nat.le_refl 0)
def f_X1_signOf (a0 : Int32) : Option Int32 :=
  if a0 = (2 : Int32) then (
    some ((0 : Int32))
  ) else (
    if a0 = 0 then (
      some ((1 : Int32))
    ) else (
      some ((-1 : Int32))
    )
  )
set_option maxHeartbeats 2000000 in
set_option maxRecDepth 20000 in
theorem M_X1_signOf {g : GT} {a0 : Int32} {h : Hp} {r : Int32} (hf : f_X1_signOf a0 = some r) : CM g yX1_signOf cX1_signOf 1 (some .int) 6 0 0 [.int a0] h (.inr (some (.int r))) h := by
  refine CM_of rfl (fun _ => Nat.le_of_ble_eq_true rfl) (fun Γ C hn0 => ?_)
  have C : Cx g Γ cX1_signOf RX1 "signOf" 1 (some .int) 6 0 0 := C
  generalize hQ : Qe g Γ (.inr (some (.int r))) h 0 0 = Q
  show U g Γ 1 Q 0 0 0 [(0, .int a0)] [] h
  unfold f_X1_signOf at hf
  refine U_iload_n (n := 1) 0 C dX1_signOf_0 rfl rfl ?_
  refine U_iconst (n := 2) (2 : Int32) C dX1_signOf_1 kiconst_2 rfl ?_
  refine U_icne (tgt := 7) (n := 5) C dX1_signOf_2 (by decide) rfl (fun c1 => ?_) (fun c1 => ?_)
  · replace hf := (if_pos c1).symm.trans hf
    refine U_iconst (n := 6) (0 : Int32) C dX1_signOf_5 kiconst_0 rfl ?_
    have hr := (Option.some.inj hf)
    subst hr
    subst hQ
    exact U_iret C dX1_signOf_6 (Nat.le_refl 0) (Nat.le_refl 0)
  · replace hf := (if_neg c1).symm.trans hf
    refine U_iload_n (n := 8) 0 C dX1_signOf_7 rfl rfl ?_
    refine U_ifne (tgt := 15) (n := 11) C dX1_signOf_8 (by decide) rfl (fun c2 => ?_) (fun c2 => ?_)
    · replace hf := (if_pos c2).symm.trans hf
      refine U_iconst (n := 12) (1 : Int32) C dX1_signOf_11 kiconst_1 rfl ?_
      refine U_goto (n := 0) (tgt := 16) C dX1_signOf_12 (by decide) ?_
      have hr := (Option.some.inj hf)
      subst hr
      subst hQ
      exact U_iret C dX1_signOf_16 (Nat.le_refl 0) (Nat.le_refl 0)
    · replace hf := (if_neg c2).symm.trans hf
      refine U_iconst (n := 16) (-1 : Int32) C dX1_signOf_15 kiconst_m1 rfl ?_
      have hr := (Option.some.inj hf)
      subst hr
      subst hQ
      exact U_iret C dX1_signOf_16 (Nat.le_refl 0) (Nat.le_refl 0)
def f_X1_wordFor (a0 : Int32) : Option Int32 :=
  if a0 = 0 then (
    some ((2 : Int32))
  ) else (
    if a0 ≤ 0 then (
      some ((1 : Int32))
    ) else (
      some ((0 : Int32))
    )
  )
set_option maxHeartbeats 2000000 in
set_option maxRecDepth 20000 in
theorem M_X1_wordFor {g : GT} {a0 : Int32} {h : Hp} {r : Int32} (hf : f_X1_wordFor a0 = some r) : CM g yX1_wordFor cX1_wordFor 1 (some .int) 6 0 0 [.int a0] h (.inr (some (.int r))) h := by
  refine CM_of rfl (fun _ => Nat.le_of_ble_eq_true rfl) (fun Γ C hn0 => ?_)
  have C : Cx g Γ cX1_wordFor RX1 "wordFor" 1 (some .int) 6 0 0 := C
  generalize hQ : Qe g Γ (.inr (some (.int r))) h 0 0 = Q
  show U g Γ 1 Q 0 0 0 [(0, .int a0)] [] h
  unfold f_X1_wordFor at hf
  refine U_iload_n (n := 1) 0 C dX1_wordFor_0 rfl rfl ?_
  refine U_ifne (tgt := 6) (n := 4) C dX1_wordFor_1 (by decide) rfl (fun c1 => ?_) (fun c1 => ?_)
  · replace hf := (if_pos c1).symm.trans hf
    refine U_iconst (n := 5) (2 : Int32) C dX1_wordFor_4 kiconst_2 rfl ?_
    have hr := (Option.some.inj hf)
    subst hr
    subst hQ
    exact U_iret C dX1_wordFor_5 (Nat.le_refl 0) (Nat.le_refl 0)
  · replace hf := (if_neg c1).symm.trans hf
    refine U_iload_n (n := 7) 0 C dX1_wordFor_6 rfl rfl ?_
    refine U_ifle (tgt := 14) (n := 10) C dX1_wordFor_7 (by decide) rfl (fun c2 => ?_) (fun c2 => ?_)
    · replace hf := (if_pos c2).symm.trans hf
      refine U_iconst (n := 15) (1 : Int32) C dX1_wordFor_14 kiconst_1 rfl ?_
      have hr := (Option.some.inj hf)
      subst hr
      subst hQ
      exact U_iret C dX1_wordFor_15 (Nat.le_refl 0) (Nat.le_refl 0)
    · replace hf := (if_neg c2).symm.trans hf
      refine U_iconst (n := 11) (0 : Int32) C dX1_wordFor_10 kiconst_0 rfl ?_
      refine U_goto (n := 0) (tgt := 15) C dX1_wordFor_11 (by decide) ?_
      have hr := (Option.some.inj hf)
      subst hr
      subst hQ
      exact U_iret C dX1_wordFor_15 (Nat.le_refl 0) (Nat.le_refl 0)
