def f_X2_setUnknown (o : Nat) (a1 : Int32) (h : Hp) : Option Hp :=
  (rc 2 h o).bind fun _ =>
  (fR 2 3 h o).bind fun v1 =>
  (wI h v1 a1 (-100 : Int32)).bind fun h2 =>
  (fR 2 4 h2 o).bind fun v3 =>
  (wI h2 v3 a1 (0 : Int32)).bind fun h4 =>
  (fR 2 5 h4 o).bind fun v5 =>
  (wI h4 v5 a1 (-100 : Int32)).bind fun h6 =>
  (fR 2 6 h6 o).bind fun v7 =>
  (wI h6 v7 a1 (-100 : Int32)).bind fun h8 =>
  (fR 2 7 h8 o).bind fun v9 =>
  (wJ h8 v9 a1 (0 : Int64)).bind fun h10 =>
  some (h10)
theorem rc_X2_setUnknown {o : Nat} {a1 : Int32} {h : Hp} {z} (hf : f_X2_setUnknown o a1 h = some z) : rc 2 h o = some () := by
  unfold f_X2_setUnknown at hf
  exact (bsome hf).choose_spec.1
set_option maxHeartbeats 2000000 in
set_option maxRecDepth 20000 in
theorem M_X2_setUnknown {g : GT} {o : Nat} {a1 : Int32} {h : Hp} {h2 : Hp} (hf : f_X2_setUnknown o a1 h = some h2) : CM g yX2_setUnknown cX2_setUnknown 2 none 6 0 0 [.ref o, .int a1] h (.inr none) h2 := by
  refine CM_of rfl (fun _ => Nat.le_of_ble_eq_true rfl) (fun Γ C hn0 => ?_)
  have C : Cx g Γ cX2_setUnknown RX2 "setUnknown" 2 none 6 0 0 := C
  generalize hQ : Qe g Γ (.inr none) h2 0 0 = Q
  show U g Γ 2 Q 0 0 0 [(0, .ref o), (1, .int a1)] [] h
  unfold f_X2_setUnknown at hf
  replace hf := (bsome hf).choose_spec.2
  refine U_aload_n (n := 1) 0 C dX2_setUnknown_0 rfl rfl rfl ?_
  refine gf_RX2_22 (n := 4) C dX2_setUnknown_1 hf rfl (fun v1 hf => ?_)
  refine U_iload_n (n := 5) 1 C dX2_setUnknown_4 rfl rfl ?_
  refine U_bipush (n := 7) (-100 : Int32) C dX2_setUnknown_5 kbipush_m100 rfl ?_
  refine U_iast (n := 8) C dX2_setUnknown_7 hf rfl (fun h2 hf => ?_)
  refine U_aload_n (n := 9) 0 C dX2_setUnknown_8 rfl rfl rfl ?_
  refine gf_RX2_26 (n := 12) C dX2_setUnknown_9 hf rfl (fun v3 hf => ?_)
  refine U_iload_n (n := 13) 1 C dX2_setUnknown_12 rfl rfl ?_
  refine U_iconst (n := 14) (0 : Int32) C dX2_setUnknown_13 kiconst_0 rfl ?_
  refine U_iast (n := 15) C dX2_setUnknown_14 hf rfl (fun h4 hf => ?_)
  refine U_aload_n (n := 16) 0 C dX2_setUnknown_15 rfl rfl rfl ?_
  refine gf_RX2_29 (n := 19) C dX2_setUnknown_16 hf rfl (fun v5 hf => ?_)
  refine U_iload_n (n := 20) 1 C dX2_setUnknown_19 rfl rfl ?_
  refine U_bipush (n := 22) (-100 : Int32) C dX2_setUnknown_20 kbipush_m100 rfl ?_
  refine U_iast (n := 23) C dX2_setUnknown_22 hf rfl (fun h6 hf => ?_)
  refine U_aload_n (n := 24) 0 C dX2_setUnknown_23 rfl rfl rfl ?_
  refine gf_RX2_32 (n := 27) C dX2_setUnknown_24 hf rfl (fun v7 hf => ?_)
  refine U_iload_n (n := 28) 1 C dX2_setUnknown_27 rfl rfl ?_
  refine U_bipush (n := 30) (-100 : Int32) C dX2_setUnknown_28 kbipush_m100 rfl ?_
  refine U_iast (n := 31) C dX2_setUnknown_30 hf rfl (fun h8 hf => ?_)
  refine U_aload_n (n := 32) 0 C dX2_setUnknown_31 rfl rfl rfl ?_
  refine gf_RX2_35 (n := 35) C dX2_setUnknown_32 hf rfl (fun v9 hf => ?_)
  refine U_iload_n (n := 36) 1 C dX2_setUnknown_35 rfl rfl ?_
  refine U_lconst (n := 37) (0 : Int64) C dX2_setUnknown_36 klconst_0 rfl ?_
  refine U_last (n := 38) C dX2_setUnknown_37 hf rfl (fun h10 hf => ?_)
  have hr := (Option.some.inj hf)
  subst hr
  subst hQ
  exact U_vret C dX2_setUnknown_38 (Nat.le_refl 0) (Nat.le_refl 0)
def l_X2_clearFor_13 (p0 : Nat) : Nat → Int32 → Hp → Option Hp
  | 0, _, _ => none
  | fuel + 1, x2, h =>
    if (56 : Int32) ≤ x2 then (
      some h
    ) else (
      (f_X2_setUnknown p0 x2 h).bind fun h5 =>
      l_X2_clearFor_13 p0 fuel (x2 + 1) h5
    )
def f_X2_clearFor (o : Nat) (a1 : Int32) (h : Hp) : Option Hp :=
  (rc 2 h o).bind fun _ =>
  (sF 2 0 (.int a1) h o).bind fun h1 =>
  (sF 2 2 (.int (-100 : Int32)) h1 o).bind fun h2 =>
  (l_X2_clearFor_13 o FU (0 : Int32) h2).bind fun h6 =>
  (fR 2 8 h6 o).bind fun v7 =>
  (f_J7_fill_53178 v7 (-100 : Int32) h6).bind fun h9 =>
  (fR 2 9 h9 o).bind fun v10 =>
  (f_J7_fill_53178 v10 (-100 : Int32) h9).bind fun h12 =>
  some (h12)
set_option maxHeartbeats 2000000 in
set_option maxRecDepth 20000 in
theorem L_X2_clearFor_13 {g : GT} {Γ : CT} {Q : State → Prop} {mc ms : Nat} (C : Cx g Γ cX2_clearFor RX2 "clearFor" 3 none 7 mc ms) {p0 : Nat} : ∀ {fuel : Nat} {x2 : Int32} {h : Hp} {hy : Hp}, l_X2_clearFor_13 p0 fuel x2 h = some hy → U g Γ 3 Q 0 0 30 [(0, .ref p0)] [] hy → U g Γ 3 Q 0 0 13 [(0, .ref p0), (2, .int x2)] [] h := by
  intro fuel
  induction fuel with
  | zero =>
    intro x2 h hy hf J0
    simp only [l_X2_clearFor_13, reduceCtorEq] at hf
  | succ fuel ih =>
    intro x2 h hy hf J0
    rw [l_X2_clearFor_13] at hf
    refine U_iload_n (n := 14) 1 C dX2_clearFor_13 rfl rfl ?_
    refine U_bipush (n := 16) (56 : Int32) C dX2_clearFor_14 kbipush_56 rfl ?_
    refine U_icge (tgt := 30) (n := 19) C dX2_clearFor_16 (by decide) rfl (fun c3 => ?_) (fun c3 => ?_)
    · replace hf := (if_pos c3).symm.trans hf
      have hr := Option.some.inj hf
      subst hr
      exact U_lv [0] rfl J0
    · replace hf := (if_neg c3).symm.trans hf
      refine U_aload_n (n := 20) 0 C dX2_clearFor_19 rfl rfl rfl ?_
      refine U_iload_n (n := 21) 1 C dX2_clearFor_20 rfl rfl ?_
      obtain ⟨h5, ev4, hf⟩ := bsome hf
      refine cv_RX2_45 (n := 24) C dX2_clearFor_21 (av := [.int x2]) rfl (rc_X2_setUnknown ev4) (M_X2_setUnknown ev4) (Nat.le_of_ble_eq_true rfl) (Nat.zero_le _) (Nat.zero_le _) (Nat.le_of_ble_eq_true rfl) rfl ?_
      refine U_iinc (n := 27) (v := (x2 + 1)) (lv2 := [(2, .int (x2 + 1)), (0, .ref p0)]) 1 C dX2_clearFor_24 rfl rfl (by decide) rfl rfl ?_
      refine U_goto (n := 0) (tgt := 13) C dX2_clearFor_27 (by decide) ?_
      exact U_lv [1, 0] rfl (ih hf J0)
theorem rc_X2_clearFor {o : Nat} {a1 : Int32} {h : Hp} {z} (hf : f_X2_clearFor o a1 h = some z) : rc 2 h o = some () := by
  unfold f_X2_clearFor at hf
  exact (bsome hf).choose_spec.1
set_option maxHeartbeats 2000000 in
set_option maxRecDepth 20000 in
theorem M_X2_clearFor {g : GT} {o : Nat} {a1 : Int32} {h : Hp} {h2 : Hp} (hf : f_X2_clearFor o a1 h = some h2) : CM g yX2_clearFor cX2_clearFor 3 none 7 0 0 [.ref o, .int a1] h (.inr none) h2 := by
  refine CM_of rfl (fun _ => Nat.le_of_ble_eq_true rfl) (fun Γ C hn0 => ?_)
  have C : Cx g Γ cX2_clearFor RX2 "clearFor" 3 none 7 0 0 := C
  generalize hQ : Qe g Γ (.inr none) h2 0 0 = Q
  show U g Γ 3 Q 0 0 0 [(0, .ref o), (1, .int a1)] [] h
  unfold f_X2_clearFor at hf
  replace hf := (bsome hf).choose_spec.2
  refine U_aload_n (n := 1) 0 C dX2_clearFor_0 rfl rfl rfl ?_
  refine U_iload_n (n := 2) 1 C dX2_clearFor_1 rfl rfl ?_
  refine pf_RX2_9 (n := 5) C dX2_clearFor_2 hf rfl (fun h1 hf => ?_)
  refine U_aload_n (n := 6) 0 C dX2_clearFor_5 rfl rfl rfl ?_
  refine U_bipush (n := 8) (-100 : Int32) C dX2_clearFor_6 kbipush_m100 rfl ?_
  refine pf_RX2_19 (n := 11) C dX2_clearFor_8 hf rfl (fun h2 hf => ?_)
  refine U_iconst (n := 12) (0 : Int32) C dX2_clearFor_11 kiconst_0 rfl ?_
  refine U_istore_n (n := 13) (lv2 := [(2, .int (0 : Int32)), (0, .ref o), (1, .int a1)]) C dX2_clearFor_12 (by decide) rfl rfl ?_
  refine U_join1 (fun h6 => U g Γ 3 Q 0 0 30 [(0, .ref o)] [] h6) hf (fun h6 hf => ?_) (fun h6 hf J => U_lv [1, 0] rfl (L_X2_clearFor_13 C hf J))
  refine U_aload_n (n := 31) 0 C dX2_clearFor_30 rfl rfl rfl ?_
  refine gf_RX2_39 (n := 34) C dX2_clearFor_31 hf rfl (fun v7 hf => ?_)
  refine U_bipush (n := 36) (-100 : Int32) C dX2_clearFor_34 kbipush_m100 rfl ?_
  obtain ⟨h9, ev8, hf⟩ := bsome hf
  refine cv_RX2_49 (n := 39) C dX2_clearFor_36 (av := [.ref v7, .int (-100 : Int32)]) rfl (M_J7_fill_53178 ev8) (Nat.le_of_ble_eq_true rfl) (Nat.zero_le _) (Nat.zero_le _) (Nat.le_of_ble_eq_true rfl) rfl ?_
  refine U_aload_n (n := 40) 0 C dX2_clearFor_39 rfl rfl rfl ?_
  refine gf_RX2_42 (n := 43) C dX2_clearFor_40 hf rfl (fun v10 hf => ?_)
  refine U_bipush (n := 45) (-100 : Int32) C dX2_clearFor_43 kbipush_m100 rfl ?_
  obtain ⟨h12, ev11, hf⟩ := bsome hf
  refine cv_RX2_49 (n := 48) C dX2_clearFor_45 (av := [.ref v10, .int (-100 : Int32)]) rfl (M_J7_fill_53178 ev11) (Nat.le_of_ble_eq_true rfl) (Nat.zero_le _) (Nat.zero_le _) (Nat.le_of_ble_eq_true rfl) rfl ?_
  have hr := (Option.some.inj hf)
  subst hr
  subst hQ
  exact U_vret C dX2_clearFor_48 (Nat.le_refl 0) (Nat.le_refl 0)
def f_X2_copyFrom (o : Nat) (a1 : Nat) (h : Hp) : Option Hp :=
  (rc 2 h o).bind fun _ =>
  (fI 2 0 h a1).bind fun v1 =>
  (sF 2 0 (.int v1) h o).bind fun h2 =>
  (fI 2 1 h2 a1).bind fun v3 =>
  (gB v3).bind fun _ =>
  (sF 2 1 (.int v3) h2 o).bind fun h4 =>
  (fI 2 2 h4 a1).bind fun v6 =>
  (sF 2 2 (.int v6) h4 o).bind fun h7 =>
  (fR 2 3 h7 a1).bind fun v8 =>
  (fR 2 3 h7 o).bind fun v9 =>
  (cpI h7 v8 (0 : Int32) v9 (0 : Int32) (56 : Int32)).bind fun h10 =>
  (fR 2 4 h10 a1).bind fun v11 =>
  (fR 2 4 h10 o).bind fun v12 =>
  (cpI h10 v11 (0 : Int32) v12 (0 : Int32) (56 : Int32)).bind fun h13 =>
  (fR 2 5 h13 a1).bind fun v14 =>
  (fR 2 5 h13 o).bind fun v15 =>
  (cpI h13 v14 (0 : Int32) v15 (0 : Int32) (56 : Int32)).bind fun h16 =>
  (fR 2 6 h16 a1).bind fun v17 =>
  (fR 2 6 h16 o).bind fun v18 =>
  (cpI h16 v17 (0 : Int32) v18 (0 : Int32) (56 : Int32)).bind fun h19 =>
  (fR 2 7 h19 a1).bind fun v20 =>
  (fR 2 7 h19 o).bind fun v21 =>
  (cpJ h19 v20 (0 : Int32) v21 (0 : Int32) (56 : Int32)).bind fun h22 =>
  (fR 2 8 h22 a1).bind fun v23 =>
  (fR 2 8 h22 o).bind fun v24 =>
  (cpI h22 v23 (0 : Int32) v24 (0 : Int32) (8 : Int32)).bind fun h25 =>
  (fR 2 9 h25 a1).bind fun v26 =>
  (fR 2 9 h25 o).bind fun v27 =>
  (cpI h25 v26 (0 : Int32) v27 (0 : Int32) (8 : Int32)).bind fun h28 =>
  some (h28)
theorem rc_X2_copyFrom {o : Nat} {a1 : Nat} {h : Hp} {z} (hf : f_X2_copyFrom o a1 h = some z) : rc 2 h o = some () := by
  unfold f_X2_copyFrom at hf
  exact (bsome hf).choose_spec.1
set_option maxHeartbeats 2000000 in
set_option maxRecDepth 20000 in
theorem M_X2_copyFrom {g : GT} {o : Nat} {a1 : Nat} {h : Hp} {h2 : Hp} (hf : f_X2_copyFrom o a1 h = some h2) : CM g yX2_copyFrom cX2_copyFrom 2 none 6 0 0 [.ref o, .ref a1] h (.inr none) h2 := by
  refine CM_of rfl (fun _ => Nat.le_of_ble_eq_true rfl) (fun Γ C hn0 => ?_)
  have C : Cx g Γ cX2_copyFrom RX2 "copyFrom" 2 none 6 0 0 := C
  generalize hQ : Qe g Γ (.inr none) h2 0 0 = Q
  show U g Γ 2 Q 0 0 0 [(0, .ref o), (1, .ref a1)] [] h
  unfold f_X2_copyFrom at hf
  replace hf := (bsome hf).choose_spec.2
  refine U_aload_n (n := 1) 0 C dX2_copyFrom_0 rfl rfl rfl ?_
  refine U_aload_n (n := 2) 1 C dX2_copyFrom_1 rfl rfl rfl ?_
  refine gf_RX2_9 (n := 5) C dX2_copyFrom_2 hf rfl (fun v1 hf => ?_)
  refine pf_RX2_9 (n := 8) C dX2_copyFrom_5 hf rfl (fun h2 hf => ?_)
  refine U_aload_n (n := 9) 0 C dX2_copyFrom_8 rfl rfl rfl ?_
  refine U_aload_n (n := 10) 1 C dX2_copyFrom_9 rfl rfl rfl ?_
  refine gf_RX2_15 (n := 13) C dX2_copyFrom_10 hf rfl (fun v3 hf => ?_)
  obtain ⟨_, hz5, hf⟩ := bsome hf
  replace hz5 := gB_spec hz5
  refine pf_RX2_15 (n := 16) C dX2_copyFrom_13 hz5 hf rfl (fun h4 hf => ?_)
  refine U_aload_n (n := 17) 0 C dX2_copyFrom_16 rfl rfl rfl ?_
  refine U_aload_n (n := 18) 1 C dX2_copyFrom_17 rfl rfl rfl ?_
  refine gf_RX2_19 (n := 21) C dX2_copyFrom_18 hf rfl (fun v6 hf => ?_)
  refine pf_RX2_19 (n := 24) C dX2_copyFrom_21 hf rfl (fun h7 hf => ?_)
  refine U_aload_n (n := 25) 1 C dX2_copyFrom_24 rfl rfl rfl ?_
  refine gf_RX2_22 (n := 28) C dX2_copyFrom_25 hf rfl (fun v8 hf => ?_)
  refine U_iconst (n := 29) (0 : Int32) C dX2_copyFrom_28 kiconst_0 rfl ?_
  refine U_aload_n (n := 30) 0 C dX2_copyFrom_29 rfl rfl rfl ?_
  refine gf_RX2_22 (n := 33) C dX2_copyFrom_30 hf rfl (fun v9 hf => ?_)
  refine U_iconst (n := 34) (0 : Int32) C dX2_copyFrom_33 kiconst_0 rfl ?_
  refine U_bipush (n := 36) (56 : Int32) C dX2_copyFrom_34 kbipush_56 rfl ?_
  refine U_copyI (n := 39) C dX2_copyFrom_36 ml_sys_RX2_55 sys_n sys_s sys_i (Nat.le_of_ble_eq_true rfl) hf rfl (fun h10 hf => ?_)
  refine U_aload_n (n := 40) 1 C dX2_copyFrom_39 rfl rfl rfl ?_
  refine gf_RX2_26 (n := 43) C dX2_copyFrom_40 hf rfl (fun v11 hf => ?_)
  refine U_iconst (n := 44) (0 : Int32) C dX2_copyFrom_43 kiconst_0 rfl ?_
  refine U_aload_n (n := 45) 0 C dX2_copyFrom_44 rfl rfl rfl ?_
  refine gf_RX2_26 (n := 48) C dX2_copyFrom_45 hf rfl (fun v12 hf => ?_)
  refine U_iconst (n := 49) (0 : Int32) C dX2_copyFrom_48 kiconst_0 rfl ?_
  refine U_bipush (n := 51) (56 : Int32) C dX2_copyFrom_49 kbipush_56 rfl ?_
  refine U_copyI (n := 54) C dX2_copyFrom_51 ml_sys_RX2_55 sys_n sys_s sys_i (Nat.le_of_ble_eq_true rfl) hf rfl (fun h13 hf => ?_)
  refine U_aload_n (n := 55) 1 C dX2_copyFrom_54 rfl rfl rfl ?_
  refine gf_RX2_29 (n := 58) C dX2_copyFrom_55 hf rfl (fun v14 hf => ?_)
  refine U_iconst (n := 59) (0 : Int32) C dX2_copyFrom_58 kiconst_0 rfl ?_
  refine U_aload_n (n := 60) 0 C dX2_copyFrom_59 rfl rfl rfl ?_
  refine gf_RX2_29 (n := 63) C dX2_copyFrom_60 hf rfl (fun v15 hf => ?_)
  refine U_iconst (n := 64) (0 : Int32) C dX2_copyFrom_63 kiconst_0 rfl ?_
  refine U_bipush (n := 66) (56 : Int32) C dX2_copyFrom_64 kbipush_56 rfl ?_
  refine U_copyI (n := 69) C dX2_copyFrom_66 ml_sys_RX2_55 sys_n sys_s sys_i (Nat.le_of_ble_eq_true rfl) hf rfl (fun h16 hf => ?_)
  refine U_aload_n (n := 70) 1 C dX2_copyFrom_69 rfl rfl rfl ?_
  refine gf_RX2_32 (n := 73) C dX2_copyFrom_70 hf rfl (fun v17 hf => ?_)
  refine U_iconst (n := 74) (0 : Int32) C dX2_copyFrom_73 kiconst_0 rfl ?_
  refine U_aload_n (n := 75) 0 C dX2_copyFrom_74 rfl rfl rfl ?_
  refine gf_RX2_32 (n := 78) C dX2_copyFrom_75 hf rfl (fun v18 hf => ?_)
  refine U_iconst (n := 79) (0 : Int32) C dX2_copyFrom_78 kiconst_0 rfl ?_
  refine U_bipush (n := 81) (56 : Int32) C dX2_copyFrom_79 kbipush_56 rfl ?_
  refine U_copyI (n := 84) C dX2_copyFrom_81 ml_sys_RX2_55 sys_n sys_s sys_i (Nat.le_of_ble_eq_true rfl) hf rfl (fun h19 hf => ?_)
  refine U_aload_n (n := 85) 1 C dX2_copyFrom_84 rfl rfl rfl ?_
  refine gf_RX2_35 (n := 88) C dX2_copyFrom_85 hf rfl (fun v20 hf => ?_)
  refine U_iconst (n := 89) (0 : Int32) C dX2_copyFrom_88 kiconst_0 rfl ?_
  refine U_aload_n (n := 90) 0 C dX2_copyFrom_89 rfl rfl rfl ?_
  refine gf_RX2_35 (n := 93) C dX2_copyFrom_90 hf rfl (fun v21 hf => ?_)
  refine U_iconst (n := 94) (0 : Int32) C dX2_copyFrom_93 kiconst_0 rfl ?_
  refine U_bipush (n := 96) (56 : Int32) C dX2_copyFrom_94 kbipush_56 rfl ?_
  refine U_copyJ (n := 99) C dX2_copyFrom_96 ml_sys_RX2_55 sys_n sys_s sys_i (Nat.le_of_ble_eq_true rfl) hf rfl (fun h22 hf => ?_)
  refine U_aload_n (n := 100) 1 C dX2_copyFrom_99 rfl rfl rfl ?_
  refine gf_RX2_39 (n := 103) C dX2_copyFrom_100 hf rfl (fun v23 hf => ?_)
  refine U_iconst (n := 104) (0 : Int32) C dX2_copyFrom_103 kiconst_0 rfl ?_
  refine U_aload_n (n := 105) 0 C dX2_copyFrom_104 rfl rfl rfl ?_
  refine gf_RX2_39 (n := 108) C dX2_copyFrom_105 hf rfl (fun v24 hf => ?_)
  refine U_iconst (n := 109) (0 : Int32) C dX2_copyFrom_108 kiconst_0 rfl ?_
  refine U_bipush (n := 111) (8 : Int32) C dX2_copyFrom_109 kbipush_8 rfl ?_
  refine U_copyI (n := 114) C dX2_copyFrom_111 ml_sys_RX2_55 sys_n sys_s sys_i (Nat.le_of_ble_eq_true rfl) hf rfl (fun h25 hf => ?_)
  refine U_aload_n (n := 115) 1 C dX2_copyFrom_114 rfl rfl rfl ?_
  refine gf_RX2_42 (n := 118) C dX2_copyFrom_115 hf rfl (fun v26 hf => ?_)
  refine U_iconst (n := 119) (0 : Int32) C dX2_copyFrom_118 kiconst_0 rfl ?_
  refine U_aload_n (n := 120) 0 C dX2_copyFrom_119 rfl rfl rfl ?_
  refine gf_RX2_42 (n := 123) C dX2_copyFrom_120 hf rfl (fun v27 hf => ?_)
  refine U_iconst (n := 124) (0 : Int32) C dX2_copyFrom_123 kiconst_0 rfl ?_
  refine U_bipush (n := 126) (8 : Int32) C dX2_copyFrom_124 kbipush_8 rfl ?_
  refine U_copyI (n := 129) C dX2_copyFrom_126 ml_sys_RX2_55 sys_n sys_s sys_i (Nat.le_of_ble_eq_true rfl) hf rfl (fun h28 hf => ?_)
  have hr := (Option.some.inj hf)
  subst hr
  subst hQ
  exact U_vret C dX2_copyFrom_129 (Nat.le_refl 0) (Nat.le_refl 0)
def l_X2_forgetDerived_10 (p0 : Nat) : Nat → Int32 → Int32 → Hp → Option (Int32 × Hp)
  | 0, _, _, _ => none
  | fuel + 1, x1, x2, h =>
    if (56 : Int32) ≤ x2 then (
      some ((x1, h))
    ) else (
      (fR 2 4 h p0).bind fun v3 =>
      (aI h v3 x2).bind fun v4 =>
      bind2 (
        if v4 = (2 : Int32) then (
          (f_X2_setUnknown p0 x2 h).bind fun h12 =>
          some (((x1 + 1), h12))
        ) else (
          some ((x1, h))
        )
      ) fun v6 h7 =>
      l_X2_forgetDerived_10 p0 fuel v6 (x2 + 1) h7
    )
def f_X2_forgetDerived (o : Nat) (h : Hp) : Option (Int32 × Hp) :=
  (rc 2 h o).bind fun _ =>
  (sF 2 2 (.int (-100 : Int32)) h o).bind fun h1 =>
  bind2 (l_X2_forgetDerived_10 o FU (0 : Int32) (0 : Int32) h1) fun v13 h14 =>
  some ((v13, h14))
set_option maxHeartbeats 2000000 in
set_option maxRecDepth 20000 in
theorem L_X2_forgetDerived_10 {g : GT} {Γ : CT} {Q : State → Prop} {mc ms : Nat} (C : Cx g Γ cX2_forgetDerived RX2 "forgetDerived" 3 (some .int) 7 mc ms) {p0 : Nat} : ∀ {fuel : Nat} {x1 : Int32} {x2 : Int32} {h : Hp} {y1 : Int32} {hy : Hp}, l_X2_forgetDerived_10 p0 fuel x1 x2 h = some (y1, hy) → U g Γ 3 Q 0 0 40 [(1, .int y1)] [] hy → U g Γ 3 Q 0 0 10 [(0, .ref p0), (1, .int x1), (2, .int x2)] [] h := by
  intro fuel
  induction fuel with
  | zero =>
    intro x1 x2 h y1 hy hf J0
    simp only [l_X2_forgetDerived_10, reduceCtorEq] at hf
  | succ fuel ih =>
    intro x1 x2 h y1 hy hf J0
    rw [l_X2_forgetDerived_10] at hf
    refine U_iload_n (n := 11) 2 C dX2_forgetDerived_10 rfl rfl ?_
    refine U_bipush (n := 13) (56 : Int32) C dX2_forgetDerived_11 kbipush_56 rfl ?_
    refine U_icge (tgt := 40) (n := 16) C dX2_forgetDerived_13 (by decide) rfl (fun c2 => ?_) (fun c2 => ?_)
    · replace hf := (if_pos c2).symm.trans hf
      obtain ⟨hr0, hs0⟩ := Prod.mk.inj (Option.some.inj hf)
      subst hr0
      subst hs0
      exact U_lv [1] rfl J0
    · replace hf := (if_neg c2).symm.trans hf
      refine U_aload_n (n := 17) 0 C dX2_forgetDerived_16 rfl rfl rfl ?_
      refine gf_RX2_26 (n := 20) C dX2_forgetDerived_17 hf rfl (fun v3 hf => ?_)
      refine U_iload_n (n := 21) 2 C dX2_forgetDerived_20 rfl rfl ?_
      refine U_iald (n := 22) C dX2_forgetDerived_21 hf rfl (fun v4 hf => ?_)
      refine U_iconst (n := 23) (2 : Int32) C dX2_forgetDerived_22 kiconst_2 rfl ?_
      refine U_join2 (fun v6 h7 => U g Γ 3 Q 0 0 34 [(0, .ref p0), (1, .int v6), (2, .int x2)] [] h7) hf (fun v6 h7 hf => ?_) (fun v6 h7 hf J9 => ?_)
      · skip
        refine U_iinc (n := 37) (v := (x2 + 1)) (lv2 := [(2, .int (x2 + 1)), (0, .ref p0), (1, .int v6)]) 2 C dX2_forgetDerived_34 rfl rfl (by decide) rfl rfl ?_
        refine U_goto (n := 0) (tgt := 10) C dX2_forgetDerived_37 (by decide) ?_
        exact U_lv [1, 2, 0] rfl (ih hf J0)
      · skip
        refine U_icne (tgt := 34) (n := 26) C dX2_forgetDerived_23 (by decide) rfl (fun c5 => ?_) (fun c5 => ?_)
        · replace hf := (if_pos c5).symm.trans hf
          refine U_aload_n (n := 27) 0 C dX2_forgetDerived_26 rfl rfl rfl ?_
          refine U_iload_n (n := 28) 2 C dX2_forgetDerived_27 rfl rfl ?_
          obtain ⟨h12, ev11, hf⟩ := bsome hf
          refine cv_RX2_45 (n := 31) C dX2_forgetDerived_28 (av := [.int x2]) rfl (rc_X2_setUnknown ev11) (M_X2_setUnknown ev11) (Nat.le_of_ble_eq_true rfl) (Nat.zero_le _) (Nat.zero_le _) (Nat.le_of_ble_eq_true rfl) rfl ?_
          refine U_iinc (n := 34) (v := (x1 + 1)) (lv2 := [(1, .int (x1 + 1)), (0, .ref p0), (2, .int x2)]) 1 C dX2_forgetDerived_31 rfl rfl (by decide) rfl rfl ?_
          obtain ⟨hr0, hs0⟩ := Prod.mk.inj (Option.some.inj hf)
          subst hr0
          subst hs0
          exact U_lv [1, 0, 2] rfl J9
        · replace hf := (if_neg c5).symm.trans hf
          obtain ⟨hr0, hs0⟩ := Prod.mk.inj (Option.some.inj hf)
          subst hr0
          subst hs0
          exact U_lv [0, 1, 2] rfl J9
theorem rc_X2_forgetDerived {o : Nat} {h : Hp} {z} (hf : f_X2_forgetDerived o h = some z) : rc 2 h o = some () := by
  unfold f_X2_forgetDerived at hf
  exact (bsome hf).choose_spec.1
set_option maxHeartbeats 2000000 in
set_option maxRecDepth 20000 in
theorem M_X2_forgetDerived {g : GT} {o : Nat} {h : Hp} {r : Int32} {h2 : Hp} (hf : f_X2_forgetDerived o h = some (r, h2)) : CM g yX2_forgetDerived cX2_forgetDerived 3 (some .int) 7 0 0 [.ref o] h (.inr (some (.int r))) h2 := by
  refine CM_of rfl (fun _ => Nat.le_of_ble_eq_true rfl) (fun Γ C hn0 => ?_)
  have C : Cx g Γ cX2_forgetDerived RX2 "forgetDerived" 3 (some .int) 7 0 0 := C
  generalize hQ : Qe g Γ (.inr (some (.int r))) h2 0 0 = Q
  show U g Γ 3 Q 0 0 0 [(0, .ref o)] [] h
  unfold f_X2_forgetDerived at hf
  replace hf := (bsome hf).choose_spec.2
  refine U_iconst (n := 1) (0 : Int32) C dX2_forgetDerived_0 kiconst_0 rfl ?_
  refine U_istore_n (n := 2) (lv2 := [(1, .int (0 : Int32)), (0, .ref o)]) C dX2_forgetDerived_1 (by decide) rfl rfl ?_
  refine U_aload_n (n := 3) 1 C dX2_forgetDerived_2 rfl rfl rfl ?_
  refine U_bipush (n := 5) (-100 : Int32) C dX2_forgetDerived_3 kbipush_m100 rfl ?_
  refine pf_RX2_19 (n := 8) C dX2_forgetDerived_5 hf rfl (fun h1 hf => ?_)
  refine U_iconst (n := 9) (0 : Int32) C dX2_forgetDerived_8 kiconst_0 rfl ?_
  refine U_istore_n (n := 10) (lv2 := [(2, .int (0 : Int32)), (1, .int (0 : Int32)), (0, .ref o)]) C dX2_forgetDerived_9 (by decide) rfl rfl ?_
  refine U_join2 (fun v13 h14 => U g Γ 3 Q 0 0 40 [(1, .int v13)] [] h14) hf (fun v13 h14 hf => ?_) (fun v13 h14 hf J => U_lv [2, 1, 0] rfl (L_X2_forgetDerived_10 C hf J))
  refine U_iload_n (n := 41) 0 C dX2_forgetDerived_40 rfl rfl ?_
  obtain ⟨hr1, hr2⟩ := Prod.mk.inj (Option.some.inj hf)
  subst hr1; subst hr2
  subst hQ
  exact U_iret C dX2_forgetDerived_41 (Nat.le_refl 0) (Nat.le_refl 0)
def f_X2_setGiven (o : Nat) (a1 : Int32) (a2 : Int32) (h : Hp) : Option Hp :=
  (rc 2 h o).bind fun _ =>
  (fR 2 3 h o).bind fun v1 =>
  (wI h v1 a1 a2).bind fun h2 =>
  (fR 2 4 h2 o).bind fun v3 =>
  (wI h2 v3 a1 (1 : Int32)).bind fun h4 =>
  (fR 2 5 h4 o).bind fun v5 =>
  (wI h4 v5 a1 (-100 : Int32)).bind fun h6 =>
  (fR 2 6 h6 o).bind fun v7 =>
  (wI h6 v7 a1 (-100 : Int32)).bind fun h8 =>
  (fR 2 7 h8 o).bind fun v9 =>
  (wJ h8 v9 a1 ((1 : Int64) <<< ((a1).toInt64 &&& 63))).bind fun h10 =>
  some (h10)
theorem rc_X2_setGiven {o : Nat} {a1 : Int32} {a2 : Int32} {h : Hp} {z} (hf : f_X2_setGiven o a1 a2 h = some z) : rc 2 h o = some () := by
  unfold f_X2_setGiven at hf
  exact (bsome hf).choose_spec.1
set_option maxHeartbeats 2000000 in
set_option maxRecDepth 20000 in
theorem M_X2_setGiven {g : GT} {o : Nat} {a1 : Int32} {a2 : Int32} {h : Hp} {h2 : Hp} (hf : f_X2_setGiven o a1 a2 h = some h2) : CM g yX2_setGiven cX2_setGiven 3 none 6 0 0 [.ref o, .int a1, .int a2] h (.inr none) h2 := by
  refine CM_of rfl (fun _ => Nat.le_of_ble_eq_true rfl) (fun Γ C hn0 => ?_)
  have C : Cx g Γ cX2_setGiven RX2 "setGiven" 3 none 6 0 0 := C
  generalize hQ : Qe g Γ (.inr none) h2 0 0 = Q
  show U g Γ 3 Q 0 0 0 [(0, .ref o), (1, .int a1), (2, .int a2)] [] h
  unfold f_X2_setGiven at hf
  replace hf := (bsome hf).choose_spec.2
  refine U_aload_n (n := 1) 0 C dX2_setGiven_0 rfl rfl rfl ?_
  refine gf_RX2_22 (n := 4) C dX2_setGiven_1 hf rfl (fun v1 hf => ?_)
  refine U_iload_n (n := 5) 1 C dX2_setGiven_4 rfl rfl ?_
  refine U_iload_n (n := 6) 2 C dX2_setGiven_5 rfl rfl ?_
  refine U_iast (n := 7) C dX2_setGiven_6 hf rfl (fun h2 hf => ?_)
  refine U_aload_n (n := 8) 0 C dX2_setGiven_7 rfl rfl rfl ?_
  refine gf_RX2_26 (n := 11) C dX2_setGiven_8 hf rfl (fun v3 hf => ?_)
  refine U_iload_n (n := 12) 1 C dX2_setGiven_11 rfl rfl ?_
  refine U_iconst (n := 13) (1 : Int32) C dX2_setGiven_12 kiconst_1 rfl ?_
  refine U_iast (n := 14) C dX2_setGiven_13 hf rfl (fun h4 hf => ?_)
  refine U_aload_n (n := 15) 0 C dX2_setGiven_14 rfl rfl rfl ?_
  refine gf_RX2_29 (n := 18) C dX2_setGiven_15 hf rfl (fun v5 hf => ?_)
  refine U_iload_n (n := 19) 1 C dX2_setGiven_18 rfl rfl ?_
  refine U_bipush (n := 21) (-100 : Int32) C dX2_setGiven_19 kbipush_m100 rfl ?_
  refine U_iast (n := 22) C dX2_setGiven_21 hf rfl (fun h6 hf => ?_)
  refine U_aload_n (n := 23) 0 C dX2_setGiven_22 rfl rfl rfl ?_
  refine gf_RX2_32 (n := 26) C dX2_setGiven_23 hf rfl (fun v7 hf => ?_)
  refine U_iload_n (n := 27) 1 C dX2_setGiven_26 rfl rfl ?_
  refine U_bipush (n := 29) (-100 : Int32) C dX2_setGiven_27 kbipush_m100 rfl ?_
  refine U_iast (n := 30) C dX2_setGiven_29 hf rfl (fun h8 hf => ?_)
  refine U_aload_n (n := 31) 0 C dX2_setGiven_30 rfl rfl rfl ?_
  refine gf_RX2_35 (n := 34) C dX2_setGiven_31 hf rfl (fun v9 hf => ?_)
  refine U_iload_n (n := 35) 1 C dX2_setGiven_34 rfl rfl ?_
  refine U_lconst (n := 36) (1 : Int64) C dX2_setGiven_35 klconst_1 rfl ?_
  refine U_iload_n (n := 37) 1 C dX2_setGiven_36 rfl rfl ?_
  refine U_lshl (n := 38) C dX2_setGiven_37 rfl ?_
  refine U_last (n := 39) C dX2_setGiven_38 hf rfl (fun h10 hf => ?_)
  have hr := (Option.some.inj hf)
  subst hr
  subst hQ
  exact U_vret C dX2_setGiven_39 (Nat.le_refl 0) (Nat.le_refl 0)
def l_X2_countKind_5 (p0 : Nat) (p1 : Int32) (p2 : Int32) (h : Hp) : Nat → Int32 → Int32 → Option Int32
  | 0, _, _ => none
  | fuel + 1, x3, x4 =>
    if p2 ≤ x4 then (
      some x3
    ) else (
      if (56 : Int32) ≤ x4 then (
        some x3
      ) else (
        (fR 2 4 h p0).bind fun v3 =>
        (aI h v3 x4).bind fun v4 =>
        (
          if v4 = p1 then (
            some ((x3 + 1))
          ) else (
            some x3
          )
        ).bind fun v6 =>
        l_X2_countKind_5 p0 p1 p2 h fuel v6 (x4 + 1)
      )
    )
def f_X2_countKind (o : Nat) (a1 : Int32) (a2 : Int32) (h : Hp) : Option Int32 :=
  (rc 2 h o).bind fun _ =>
  (l_X2_countKind_5 o a1 a2 h FU (0 : Int32) (0 : Int32)).bind fun v10 =>
  some (v10)
set_option maxHeartbeats 2000000 in
set_option maxRecDepth 20000 in
theorem L_X2_countKind_5 {g : GT} {Γ : CT} {Q : State → Prop} {mc ms : Nat} (C : Cx g Γ cX2_countKind RX2 "countKind" 5 (some .int) 6 mc ms) {p0 : Nat} {p1 : Int32} {p2 : Int32} {h : Hp} : ∀ {fuel : Nat} {x3 : Int32} {x4 : Int32} {y3 : Int32}, l_X2_countKind_5 p0 p1 p2 h fuel x3 x4 = some y3 → U g Γ 5 Q 0 0 38 [(3, .int y3)] [] h → U g Γ 5 Q 0 0 5 [(0, .ref p0), (1, .int p1), (2, .int p2), (3, .int x3), (4, .int x4)] [] h := by
  intro fuel
  induction fuel with
  | zero =>
    intro x3 x4 y3 hf J0
    simp only [l_X2_countKind_5, reduceCtorEq] at hf
  | succ fuel ih =>
    intro x3 x4 y3 hf J0
    rw [l_X2_countKind_5] at hf
    refine U_iload (n := 7) 4 C dX2_countKind_5 rfl rfl ?_
    refine U_iload_n (n := 8) 2 C dX2_countKind_7 rfl rfl ?_
    refine U_icge (tgt := 38) (n := 11) C dX2_countKind_8 (by decide) rfl (fun c1 => ?_) (fun c1 => ?_)
    · replace hf := (if_pos c1).symm.trans hf
      have hr := Option.some.inj hf
      subst hr
      exact U_lv [3] rfl J0
    · replace hf := (if_neg c1).symm.trans hf
      refine U_iload (n := 13) 4 C dX2_countKind_11 rfl rfl ?_
      refine U_bipush (n := 15) (56 : Int32) C dX2_countKind_13 kbipush_56 rfl ?_
      refine U_icge (tgt := 38) (n := 18) C dX2_countKind_15 (by decide) rfl (fun c2 => ?_) (fun c2 => ?_)
      · replace hf := (if_pos c2).symm.trans hf
        have hr := Option.some.inj hf
        subst hr
        exact U_lv [3] rfl J0
      · replace hf := (if_neg c2).symm.trans hf
        refine U_aload_n (n := 19) 0 C dX2_countKind_18 rfl rfl rfl ?_
        refine gf_RX2_26 (n := 22) C dX2_countKind_19 hf rfl (fun v3 hf => ?_)
        refine U_iload (n := 24) 4 C dX2_countKind_22 rfl rfl ?_
        refine U_iald (n := 25) C dX2_countKind_24 hf rfl (fun v4 hf => ?_)
        refine U_iload_n (n := 26) 1 C dX2_countKind_25 rfl rfl ?_
        refine U_join1 (fun v6 => U g Γ 5 Q 0 0 32 [(0, .ref p0), (1, .int p1), (2, .int p2), (3, .int v6), (4, .int x4)] [] h) hf (fun v6 hf => ?_) (fun v6 hf J8 => ?_)
        · skip
          refine U_iinc (n := 35) (v := (x4 + 1)) (lv2 := [(4, .int (x4 + 1)), (0, .ref p0), (1, .int p1), (2, .int p2), (3, .int v6)]) 4 C dX2_countKind_32 rfl rfl (by decide) rfl rfl ?_
          refine U_goto (n := 0) (tgt := 5) C dX2_countKind_35 (by decide) ?_
          exact U_lv [1, 2, 3, 4, 0] rfl (ih hf J0)
        · skip
          refine U_icne (tgt := 32) (n := 29) C dX2_countKind_26 (by decide) rfl (fun c5 => ?_) (fun c5 => ?_)
          · replace hf := (if_pos c5).symm.trans hf
            refine U_iinc (n := 32) (v := (x3 + 1)) (lv2 := [(3, .int (x3 + 1)), (0, .ref p0), (1, .int p1), (2, .int p2), (4, .int x4)]) 3 C dX2_countKind_29 rfl rfl (by decide) rfl rfl ?_
            have hr := Option.some.inj hf
            subst hr
            exact U_lv [1, 2, 3, 0, 4] rfl J8
          · replace hf := (if_neg c5).symm.trans hf
            have hr := Option.some.inj hf
            subst hr
            exact U_lv [0, 1, 2, 3, 4] rfl J8
theorem rc_X2_countKind {o : Nat} {a1 : Int32} {a2 : Int32} {h : Hp} {z} (hf : f_X2_countKind o a1 a2 h = some z) : rc 2 h o = some () := by
  unfold f_X2_countKind at hf
  exact (bsome hf).choose_spec.1
set_option maxHeartbeats 2000000 in
set_option maxRecDepth 20000 in
theorem M_X2_countKind {g : GT} {o : Nat} {a1 : Int32} {a2 : Int32} {h : Hp} {r : Int32} (hf : f_X2_countKind o a1 a2 h = some r) : CM g yX2_countKind cX2_countKind 5 (some .int) 6 0 0 [.ref o, .int a1, .int a2] h (.inr (some (.int r))) h := by
  refine CM_of rfl (fun _ => Nat.le_of_ble_eq_true rfl) (fun Γ C hn0 => ?_)
  have C : Cx g Γ cX2_countKind RX2 "countKind" 5 (some .int) 6 0 0 := C
  generalize hQ : Qe g Γ (.inr (some (.int r))) h 0 0 = Q
  show U g Γ 5 Q 0 0 0 [(0, .ref o), (1, .int a1), (2, .int a2)] [] h
  unfold f_X2_countKind at hf
  replace hf := (bsome hf).choose_spec.2
  refine U_iconst (n := 1) (0 : Int32) C dX2_countKind_0 kiconst_0 rfl ?_
  refine U_istore_n (n := 2) (lv2 := [(3, .int (0 : Int32)), (0, .ref o), (1, .int a1), (2, .int a2)]) C dX2_countKind_1 (by decide) rfl rfl ?_
  refine U_iconst (n := 3) (0 : Int32) C dX2_countKind_2 kiconst_0 rfl ?_
  refine U_istore (n := 5) (lv2 := [(4, .int (0 : Int32)), (3, .int (0 : Int32)), (0, .ref o), (1, .int a1), (2, .int a2)]) C dX2_countKind_3 (by decide) rfl rfl ?_
  refine U_join1 (fun v10 => U g Γ 5 Q 0 0 38 [(3, .int v10)] [] h) hf (fun v10 hf => ?_) (fun v10 hf J => U_lv [2, 3, 4, 1, 0] rfl (L_X2_countKind_5 C hf J))
  refine U_iload_n (n := 39) 0 C dX2_countKind_38 rfl rfl ?_
  have hr := (Option.some.inj hf)
  subst hr
  subst hQ
  exact U_iret C dX2_countKind_39 (Nat.le_refl 0) (Nat.le_refl 0)
def f_X2_setDerived (o : Nat) (a1 : Int32) (a2 : Int32) (a3 : Int32) (a4 : Int32) (a5 : Int64) (h : Hp) : Option Hp :=
  (rc 2 h o).bind fun _ =>
  (fR 2 3 h o).bind fun v1 =>
  (wI h v1 a1 a2).bind fun h2 =>
  (fR 2 4 h2 o).bind fun v3 =>
  (wI h2 v3 a1 (2 : Int32)).bind fun h4 =>
  (fR 2 5 h4 o).bind fun v5 =>
  (wI h4 v5 a1 a3).bind fun h6 =>
  (fR 2 6 h6 o).bind fun v7 =>
  (wI h6 v7 a1 a4).bind fun h8 =>
  (fR 2 7 h8 o).bind fun v9 =>
  (wJ h8 v9 a1 a5).bind fun h10 =>
  some (h10)
theorem rc_X2_setDerived {o : Nat} {a1 : Int32} {a2 : Int32} {a3 : Int32} {a4 : Int32} {a5 : Int64} {h : Hp} {z} (hf : f_X2_setDerived o a1 a2 a3 a4 a5 h = some z) : rc 2 h o = some () := by
  unfold f_X2_setDerived at hf
  exact (bsome hf).choose_spec.1
set_option maxHeartbeats 2000000 in
set_option maxRecDepth 20000 in
theorem M_X2_setDerived {g : GT} {o : Nat} {a1 : Int32} {a2 : Int32} {a3 : Int32} {a4 : Int32} {a5 : Int64} {h : Hp} {h2 : Hp} (hf : f_X2_setDerived o a1 a2 a3 a4 a5 h = some h2) : CM g yX2_setDerived cX2_setDerived 7 none 6 0 0 [.ref o, .int a1, .int a2, .int a3, .int a4, .long a5] h (.inr none) h2 := by
  refine CM_of rfl (fun _ => Nat.le_of_ble_eq_true rfl) (fun Γ C hn0 => ?_)
  have C : Cx g Γ cX2_setDerived RX2 "setDerived" 7 none 6 0 0 := C
  generalize hQ : Qe g Γ (.inr none) h2 0 0 = Q
  show U g Γ 7 Q 0 0 0 [(0, .ref o), (1, .int a1), (2, .int a2), (3, .int a3), (4, .int a4), (5, .long a5)] [] h
  unfold f_X2_setDerived at hf
  replace hf := (bsome hf).choose_spec.2
  refine U_aload_n (n := 1) 0 C dX2_setDerived_0 rfl rfl rfl ?_
  refine gf_RX2_22 (n := 4) C dX2_setDerived_1 hf rfl (fun v1 hf => ?_)
  refine U_iload_n (n := 5) 1 C dX2_setDerived_4 rfl rfl ?_
  refine U_iload_n (n := 6) 2 C dX2_setDerived_5 rfl rfl ?_
  refine U_iast (n := 7) C dX2_setDerived_6 hf rfl (fun h2 hf => ?_)
  refine U_aload_n (n := 8) 0 C dX2_setDerived_7 rfl rfl rfl ?_
  refine gf_RX2_26 (n := 11) C dX2_setDerived_8 hf rfl (fun v3 hf => ?_)
  refine U_iload_n (n := 12) 1 C dX2_setDerived_11 rfl rfl ?_
  refine U_iconst (n := 13) (2 : Int32) C dX2_setDerived_12 kiconst_2 rfl ?_
  refine U_iast (n := 14) C dX2_setDerived_13 hf rfl (fun h4 hf => ?_)
  refine U_aload_n (n := 15) 0 C dX2_setDerived_14 rfl rfl rfl ?_
  refine gf_RX2_29 (n := 18) C dX2_setDerived_15 hf rfl (fun v5 hf => ?_)
  refine U_iload_n (n := 19) 1 C dX2_setDerived_18 rfl rfl ?_
  refine U_iload_n (n := 20) 3 C dX2_setDerived_19 rfl rfl ?_
  refine U_iast (n := 21) C dX2_setDerived_20 hf rfl (fun h6 hf => ?_)
  refine U_aload_n (n := 22) 0 C dX2_setDerived_21 rfl rfl rfl ?_
  refine gf_RX2_32 (n := 25) C dX2_setDerived_22 hf rfl (fun v7 hf => ?_)
  refine U_iload_n (n := 26) 1 C dX2_setDerived_25 rfl rfl ?_
  refine U_iload (n := 28) 4 C dX2_setDerived_26 rfl rfl ?_
  refine U_iast (n := 29) C dX2_setDerived_28 hf rfl (fun h8 hf => ?_)
  refine U_aload_n (n := 30) 0 C dX2_setDerived_29 rfl rfl rfl ?_
  refine gf_RX2_35 (n := 33) C dX2_setDerived_30 hf rfl (fun v9 hf => ?_)
  refine U_iload_n (n := 34) 1 C dX2_setDerived_33 rfl rfl ?_
  refine U_lload (n := 36) 5 C dX2_setDerived_34 rfl rfl ?_
  refine U_last (n := 37) C dX2_setDerived_36 hf rfl (fun h10 hf => ?_)
  have hr := (Option.some.inj hf)
  subst hr
  subst hQ
  exact U_vret C dX2_setDerived_37 (Nat.le_refl 0) (Nat.le_refl 0)
